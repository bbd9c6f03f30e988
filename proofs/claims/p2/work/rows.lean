section
-- ===== PART A: goes FIRST, ahead of the names: the tables' words, and 'selects' of the private methods out of them =====
/-- a private method of a class that the tables say can be made, by its rows of tables_1 -/
def lw_okq (q : MethodName × Nat) : Prop := (q.1.cls ≠ "java/lang/invoke/MethodHandle" ∧ q.1.cls ≠ "java/lang/invoke/VarHandle") ∧ Cond.instantiable q.1.cls q.2 ∈ tables_1 ∧ Cond.privateMethod q.1 ∈ tables_1 ∧ Cond.instanceMethod q.1 ∈ tables_1
theorem lw_p0 : lw_okq (⟨"WordFormsModel", "jumps", "(I)I"⟩, 0) := ⟨⟨by decide +kernel, by decide +kernel⟩, List.mem_of_getElem? (i := 116) (by decide +kernel), List.mem_of_getElem? (i := 145) (by decide +kernel), List.mem_of_getElem? (i := 146) (by decide +kernel)⟩
def lw_privs_1 : List (MethodName × Nat) := [(⟨"WordFormsModel", "jumps", "(I)I"⟩, 0)]
theorem lw_r1 : ∀ q ∈ lw_privs_1, lw_okq q := List.forall_mem_cons.mpr ⟨lw_p0, fun _ h => absurd h List.not_mem_nil⟩
def lw_privs : List (MethodName × Nat) := lw_privs_1
def lw_tbl : List Cond := k2_sels lw_privs ++ tables_1
theorem lw_privs_ok : ∀ q ∈ lw_privs, lw_okq q := lw_r1
/-! ===== BEGIN words of one list among another's, by their places ===== -/
theorem goodIn_r {big : List Cond} (ws : List Cond) (ps : List Nat) (hp : ws = ps.filterMap (fun i => big[i]?)) (h : ws.all goodWord = true) : GoodIn big ws := by
  intro w hw
  have h1 := List.all_eq_true.mp h w hw
  rw [hp] at hw
  obtain ⟨i, -, hi⟩ := List.mem_filterMap.mp hw
  have hm : w ∈ big := by first | exact List.mem_of_getElem? hi | exact List.getElem?_mem hi
  exact ⟨hm, good_of_word h1⟩
theorem goodIn_app {big a b : List Cond} (ha : GoodIn big a) (hb : GoodIn big b) : GoodIn big (a ++ b) := fun w h => (List.mem_append.mp h).elim (ha w) (hb w)
theorem goodIn_ca {big a b : List Cond} {c : Cond} (ha : GoodIn big (c :: a)) (hb : GoodIn big b) : GoodIn big (c :: (a ++ b)) := fun w h => (List.mem_cons.mp h).elim (fun e => ha w (List.mem_cons.mpr (Or.inl e))) (fun h => (List.mem_append.mp h).elim (fun h => ha w (List.mem_cons.mpr (Or.inr h))) (hb w))
theorem goodIn_sub {big ws : List Cond} (hm : ∀ w ∈ ws, w ∈ big) (h : ws.all goodWord = true) : GoodIn big ws := fun w hw => ⟨hm w hw, good_of_word (List.all_eq_true.mp h w hw)⟩
/-! ===== END ===== -/

/-! ===== BEGIN printed: names, fields, word lists, decode rows ===== -/
def RX0 : String := "WordForms"
def TX0 : u_T := fun k => match k with
  | _ => ("", "", "", false)
def tyX0 : Nat → FieldType := fun k => match k with
  | _ => .int
abbrev wsX00 : List Cond := u_ws RX0 TX0 0
theorem nmX0 : ∀ a, a < 0 → ∀ b, b < 0 → a ≠ b → (TX0 a).2.1 ≠ (TX0 b).2.1 := by decide +kernel
theorem tyX0_ok : ∀ k, k < 0 → parseFieldDescriptor (TX0 k).2.2.1 = some (tyX0 k) := by decide +kernel
abbrev cX0_init : ByteArray := prog_1_method_1_code
def yX0_init : MethodName := ⟨RX0, "<init>", "()V"⟩
abbrev cX0_kind : ByteArray := prog_1_method_2_code
def yX0_kind : MethodName := ⟨RX0, "kind", "(I)I"⟩
abbrev cX0_by : ByteArray := prog_1_method_3_code
def yX0_by : MethodName := ⟨RX0, "by", "(I)I"⟩
abbrev cX0_going : ByteArray := prog_1_method_4_code
def yX0_going : MethodName := ⟨RX0, "going", "(II)I"⟩
abbrev cX0_reaches : ByteArray := prog_1_method_5_code
def yX0_reaches : MethodName := ⟨RX0, "reaches", "(IJ)Z"⟩
abbrev cX0_turned : ByteArray := prog_1_method_6_code
def yX0_turned : MethodName := ⟨RX0, "turned", "(I)I"⟩
abbrev cX0_page : ByteArray := prog_1_method_7_code
def yX0_page : MethodName := ⟨RX0, "page", "(IJ)J"⟩
abbrev cX0_paging : ByteArray := prog_1_method_8_code
def yX0_paging : MethodName := ⟨RX0, "paging", "(IJJ)I"⟩
abbrev cX0_goesOn : ByteArray := prog_1_method_9_code
def yX0_goesOn : MethodName := ⟨RX0, "goesOn", "(I)Z"⟩
abbrev cX0_register : ByteArray := prog_1_method_10_code
def yX0_register : MethodName := ⟨RX0, "register", "(II)I"⟩
abbrev cX0_formOf : ByteArray := prog_1_method_11_code
def yX0_formOf : MethodName := ⟨RX0, "formOf", "(I)I"⟩
abbrev cX0_isAllowed : ByteArray := prog_1_method_12_code
def yX0_isAllowed : MethodName := ⟨RX0, "isAllowed", "(II)Z"⟩
abbrev cX0_isMovedWithin : ByteArray := prog_1_method_13_code
def yX0_isMovedWithin : MethodName := ⟨RX0, "isMovedWithin", "(I)Z"⟩
abbrev cX0_isTwo : ByteArray := prog_1_method_14_code
def yX0_isTwo : MethodName := ⟨RX0, "isTwo", "(I)Z"⟩
abbrev cX0_isCondition : ByteArray := prog_1_method_15_code
def yX0_isCondition : MethodName := ⟨RX0, "isCondition", "(I)Z"⟩
abbrev cX0_isLoad : ByteArray := prog_1_method_16_code
def yX0_isLoad : MethodName := ⟨RX0, "isLoad", "(II)Z"⟩
abbrev cX0_isPair : ByteArray := prog_1_method_17_code
def yX0_isPair : MethodName := ⟨RX0, "isPair", "(I)Z"⟩
abbrev cX0_isGoing : ByteArray := prog_1_method_18_code
def yX0_isGoing : MethodName := ⟨RX0, "isGoing", "(I)Z"⟩
abbrev cX0_distancePlace : ByteArray := prog_1_method_19_code
def yX0_distancePlace : MethodName := ⟨RX0, "distancePlace", "(I)I"⟩
abbrev cX0_distanceWidth : ByteArray := prog_1_method_20_code
def yX0_distanceWidth : MethodName := ⟨RX0, "distanceWidth", "(I)I"⟩
abbrev cX0_isWithinReach : ByteArray := prog_1_method_21_code
def yX0_isWithinReach : MethodName := ⟨RX0, "isWithinReach", "(IJ)Z"⟩
abbrev cX0_hasD : ByteArray := prog_1_method_22_code
def yX0_hasD : MethodName := ⟨RX0, "hasD", "(I)Z"⟩
abbrev cX0_hasN : ByteArray := prog_1_method_23_code
def yX0_hasN : MethodName := ⟨RX0, "hasN", "(I)Z"⟩
abbrev cX0_hasM : ByteArray := prog_1_method_24_code
def yX0_hasM : MethodName := ⟨RX0, "hasM", "(I)Z"⟩
abbrev cX0_hasA : ByteArray := prog_1_method_25_code
def yX0_hasA : MethodName := ⟨RX0, "hasA", "(I)Z"⟩
abbrev cX0_isLong : ByteArray := prog_1_method_26_code
def yX0_isLong : MethodName := ⟨RX0, "isLong", "(I)Z"⟩
abbrev cX0_bits : ByteArray := prog_1_method_27_code
def yX0_bits : MethodName := ⟨RX0, "bits", "(III)I"⟩
abbrev cX0_signedBits : ByteArray := prog_1_method_28_code
def yX0_signedBits : MethodName := ⟨RX0, "signedBits", "(III)I"⟩
abbrev cX0_lowBits : ByteArray := prog_1_method_29_code
def yX0_lowBits : MethodName := ⟨RX0, "lowBits", "(I)I"⟩
def RX1 : String := "WordFormsModel"
def TX1 : u_T := fun k => match k with
  | _ => ("", "", "", false)
def tyX1 : Nat → FieldType := fun k => match k with
  | _ => .int
abbrev wsX10 : List Cond := u_ws RX1 TX1 0
theorem nmX1 : ∀ a, a < 0 → ∀ b, b < 0 → a ≠ b → (TX1 a).2.1 ≠ (TX1 b).2.1 := by decide +kernel
theorem tyX1_ok : ∀ k, k < 0 → parseFieldDescriptor (TX1 k).2.2.1 = some (tyX1 k) := by decide +kernel
abbrev cX1_init : ByteArray := prog_3_method_1_code
def yX1_init : MethodName := ⟨RX1, "<init>", "()V"⟩
abbrev cX1_bits : ByteArray := prog_3_method_3_code
def yX1_bits : MethodName := ⟨RX1, "bits", "(III)I"⟩
abbrev cX1_signed : ByteArray := prog_3_method_4_code
def yX1_signed : MethodName := ⟨RX1, "signed", "(III)I"⟩
abbrev cX1_kind : ByteArray := prog_3_method_5_code
def yX1_kind : MethodName := ⟨RX1, "kind", "(I)I"⟩
abbrev cX1_jumps : ByteArray := prog_3_method_6_code
def yX1_jumps : MethodName := ⟨RX1, "jumps", "(I)I"⟩
abbrev cX1_goesByRegister : ByteArray := prog_3_method_7_code
def yX1_goesByRegister : MethodName := ⟨RX1, "goesByRegister", "(I)I"⟩
abbrev cX1_isMoved : ByteArray := prog_3_method_8_code
def yX1_isMoved : MethodName := ⟨RX1, "isMoved", "(I)Z"⟩
abbrev cX1_inTwo : ByteArray := prog_3_method_9_code
def yX1_inTwo : MethodName := ⟨RX1, "inTwo", "(I)I"⟩
abbrev cX1_isByRegister : ByteArray := prog_3_method_10_code
def yX1_isByRegister : MethodName := ⟨RX1, "isByRegister", "(I)Z"⟩
abbrev cX1_isSize : ByteArray := prog_3_method_11_code
def yX1_isSize : MethodName := ⟨RX1, "isSize", "(I)Z"⟩
abbrev cX1_isPair : ByteArray := prog_3_method_12_code
def yX1_isPair : MethodName := ⟨RX1, "isPair", "(I)Z"⟩
abbrev cX1_reach : ByteArray := prog_3_method_13_code
def yX1_reach : MethodName := ⟨RX1, "reach", "(I)I"⟩
abbrev cX1_by : ByteArray := prog_3_method_14_code
def yX1_by : MethodName := ⟨RX1, "by", "(I)I"⟩
abbrev cX1_reaches : ByteArray := prog_3_method_15_code
def yX1_reaches : MethodName := ⟨RX1, "reaches", "(IJ)Z"⟩
abbrev cX1_going : ByteArray := prog_3_method_16_code
def yX1_going : MethodName := ⟨RX1, "going", "(II)I"⟩
abbrev cX1_turned : ByteArray := prog_3_method_17_code
def yX1_turned : MethodName := ⟨RX1, "turned", "(I)I"⟩
abbrev cX1_page : ByteArray := prog_3_method_18_code
def yX1_page : MethodName := ⟨RX1, "page", "(IJ)J"⟩
abbrev cX1_paging : ByteArray := prog_3_method_19_code
def yX1_paging : MethodName := ⟨RX1, "paging", "(IJJ)I"⟩
abbrev cX1_goesOn : ByteArray := prog_3_method_20_code
def yX1_goesOn : MethodName := ⟨RX1, "goesOn", "(I)Z"⟩
abbrev cX1_register : ByteArray := prog_3_method_21_code
def yX1_register : MethodName := ⟨RX1, "register", "(II)I"⟩
def RL : String := "WordFormsLaw"
abbrev cL_law : ByteArray := code
def yL_law : MethodName := ⟨RL, "law", "([I)Z"⟩
def wsX0_init : List Cond := .code yX0_init cX0_init 1 none :: ([.methodLink RX0 1 objectInit, .instanceMethod objectInit, .code objectInit ⟨#[0xb1]⟩ 1 none])
def wsX0_formOf : List Cond := .code yX0_formOf cX0_formOf 2 (some .int) :: ([.fieldLink RX0 66 "WordForms" "FORMS" "[I"])
def wsX0_lowBits : List Cond := .code yX0_lowBits cX0_lowBits 1 (some .int) :: ([])
def wsX0_bits : List Cond := .code yX0_bits cX0_bits 3 (some .int) :: ([.methodLink RX0 38 yX0_lowBits, .static yX0_lowBits, .initialized RX0, .code yX0_lowBits cX0_lowBits 1 (some .int)])
def wsX0_isLong : List Cond := .code yX0_isLong cX0_isLong 1 (some .boolean) :: ([])
def wsX0_isMovedWithin : List Cond := .code yX0_isMovedWithin cX0_isMovedWithin 1 (some .boolean) :: ([.methodLink RX0 73 yX0_isLong, .static yX0_isLong, .initialized RX0, .code yX0_isLong cX0_isLong 1 (some .boolean), .methodLink RX0 46 yX0_bits, .static yX0_bits, .code yX0_bits cX0_bits 3 (some .int), .methodLink RX0 38 yX0_lowBits, .static yX0_lowBits, .code yX0_lowBits cX0_lowBits 1 (some .int)])
def wsX0_isTwo : List Cond := .code yX0_isTwo cX0_isTwo 1 (some .boolean) :: ([])
def wsX0_isCondition : List Cond := .code yX0_isCondition cX0_isCondition 1 (some .boolean) :: ([])
def wsX0_isLoad : List Cond := .code yX0_isLoad cX0_isLoad 2 (some .boolean) :: ([])
def wsX0_isPair : List Cond := .code yX0_isPair cX0_isPair 7 (some .boolean) :: ([.methodLink RX0 46 yX0_bits, .static yX0_bits, .initialized RX0, .code yX0_bits cX0_bits 3 (some .int), .methodLink RX0 38 yX0_lowBits, .static yX0_lowBits, .code yX0_lowBits cX0_lowBits 1 (some .int)])
def wsX0_isAllowed_r1 : List Cond := [Cond.methodLink RX0 46 yX0_bits, Cond.static yX0_bits, Cond.initialized RX0, Cond.code yX0_bits cX0_bits 3 (some .int), Cond.methodLink RX0 38 yX0_lowBits, Cond.static yX0_lowBits, Cond.code yX0_lowBits cX0_lowBits 1 (some .int), Cond.methodLink RX0 70 yX0_isMovedWithin, Cond.static yX0_isMovedWithin, Cond.code yX0_isMovedWithin cX0_isMovedWithin 1 (some .boolean), Cond.methodLink RX0 73 yX0_isLong, Cond.static yX0_isLong, Cond.code yX0_isLong cX0_isLong 1 (some .boolean), Cond.methodLink RX0 76 yX0_isTwo, Cond.static yX0_isTwo, Cond.code yX0_isTwo cX0_isTwo 1 (some .boolean), Cond.methodLink RX0 79 yX0_isCondition, Cond.static yX0_isCondition, Cond.code yX0_isCondition cX0_isCondition 1 (some .boolean), Cond.methodLink RX0 82 yX0_isLoad, Cond.static yX0_isLoad, Cond.code yX0_isLoad cX0_isLoad 2 (some .boolean), Cond.methodLink RX0 85 yX0_isPair, Cond.static yX0_isPair]
def wsX0_isAllowed_r2 : List Cond := [Cond.code yX0_isPair cX0_isPair 7 (some .boolean)]
def wsX0_isAllowed : List Cond := .code yX0_isAllowed cX0_isAllowed 2 (some .boolean) :: ((wsX0_isAllowed_r1 ++ wsX0_isAllowed_r2))
def wsX0_kind_r1 : List Cond := [Cond.methodLink RX0 7 yX0_formOf, Cond.static yX0_formOf, Cond.initialized RX0, Cond.code yX0_formOf cX0_formOf 2 (some .int), Cond.fieldLink RX0 66 "WordForms" "FORMS" "[I", Cond.methodLink RX0 13 yX0_isAllowed, Cond.static yX0_isAllowed, Cond.code yX0_isAllowed cX0_isAllowed 2 (some .boolean), Cond.methodLink RX0 46 yX0_bits, Cond.static yX0_bits, Cond.code yX0_bits cX0_bits 3 (some .int), Cond.methodLink RX0 38 yX0_lowBits, Cond.static yX0_lowBits, Cond.code yX0_lowBits cX0_lowBits 1 (some .int), Cond.methodLink RX0 70 yX0_isMovedWithin, Cond.static yX0_isMovedWithin, Cond.code yX0_isMovedWithin cX0_isMovedWithin 1 (some .boolean), Cond.methodLink RX0 73 yX0_isLong, Cond.static yX0_isLong, Cond.code yX0_isLong cX0_isLong 1 (some .boolean), Cond.methodLink RX0 76 yX0_isTwo, Cond.static yX0_isTwo, Cond.code yX0_isTwo cX0_isTwo 1 (some .boolean), Cond.methodLink RX0 79 yX0_isCondition]
def wsX0_kind_r2 : List Cond := [Cond.static yX0_isCondition, Cond.code yX0_isCondition cX0_isCondition 1 (some .boolean), Cond.methodLink RX0 82 yX0_isLoad, Cond.static yX0_isLoad, Cond.code yX0_isLoad cX0_isLoad 2 (some .boolean), Cond.methodLink RX0 85 yX0_isPair, Cond.static yX0_isPair, Cond.code yX0_isPair cX0_isPair 7 (some .boolean)]
def wsX0_kind : List Cond := .code yX0_kind cX0_kind 3 (some .int) :: ((wsX0_kind_r1 ++ wsX0_kind_r2))
def wsX0_isGoing : List Cond := .code yX0_isGoing cX0_isGoing 1 (some .boolean) :: ([])
def wsX0_distancePlace : List Cond := .code yX0_distancePlace cX0_distancePlace 1 (some .int) :: ([])
def wsX0_distanceWidth : List Cond := .code yX0_distanceWidth cX0_distanceWidth 1 (some .int) :: ([])
def wsX0_signedBits : List Cond := .code yX0_signedBits cX0_signedBits 3 (some .int) :: ([])
def wsX0_by_r1 : List Cond := [Cond.methodLink RX0 17 yX0_kind, Cond.instanceMethod yX0_kind, Cond.selects RX0 yX0_kind yX0_kind, Cond.initialized RX0, Cond.code yX0_kind cX0_kind 3 (some .int), Cond.methodLink RX0 7 yX0_formOf, Cond.static yX0_formOf, Cond.code yX0_formOf cX0_formOf 2 (some .int), Cond.fieldLink RX0 66 "WordForms" "FORMS" "[I", Cond.methodLink RX0 13 yX0_isAllowed, Cond.static yX0_isAllowed, Cond.code yX0_isAllowed cX0_isAllowed 2 (some .boolean), Cond.methodLink RX0 46 yX0_bits, Cond.static yX0_bits, Cond.code yX0_bits cX0_bits 3 (some .int), Cond.methodLink RX0 38 yX0_lowBits, Cond.static yX0_lowBits, Cond.code yX0_lowBits cX0_lowBits 1 (some .int), Cond.methodLink RX0 70 yX0_isMovedWithin, Cond.static yX0_isMovedWithin, Cond.code yX0_isMovedWithin cX0_isMovedWithin 1 (some .boolean), Cond.methodLink RX0 73 yX0_isLong, Cond.static yX0_isLong, Cond.code yX0_isLong cX0_isLong 1 (some .boolean)]
def wsX0_by_r2 : List Cond := [Cond.methodLink RX0 76 yX0_isTwo, Cond.static yX0_isTwo, Cond.code yX0_isTwo cX0_isTwo 1 (some .boolean), Cond.methodLink RX0 79 yX0_isCondition, Cond.static yX0_isCondition, Cond.code yX0_isCondition cX0_isCondition 1 (some .boolean), Cond.methodLink RX0 82 yX0_isLoad, Cond.static yX0_isLoad, Cond.code yX0_isLoad cX0_isLoad 2 (some .boolean), Cond.methodLink RX0 85 yX0_isPair, Cond.static yX0_isPair, Cond.code yX0_isPair cX0_isPair 7 (some .boolean), Cond.methodLink RX0 20 yX0_isGoing, Cond.static yX0_isGoing, Cond.code yX0_isGoing cX0_isGoing 1 (some .boolean), Cond.methodLink RX0 24 yX0_distancePlace, Cond.static yX0_distancePlace, Cond.code yX0_distancePlace cX0_distancePlace 1 (some .int), Cond.methodLink RX0 27 yX0_distanceWidth, Cond.static yX0_distanceWidth, Cond.code yX0_distanceWidth cX0_distanceWidth 1 (some .int), Cond.methodLink RX0 30 yX0_signedBits, Cond.static yX0_signedBits, Cond.code yX0_signedBits cX0_signedBits 3 (some .int)]
def wsX0_by : List Cond := .code yX0_by cX0_by 3 (some .int) :: ((wsX0_by_r1 ++ wsX0_by_r2))
def wsX0_isWithinReach : List Cond := .code yX0_isWithinReach cX0_isWithinReach 5 (some .boolean) :: ([.constantLong RX0 88 (3), .methodLink RX0 20 yX0_isGoing, .static yX0_isGoing, .initialized RX0, .code yX0_isGoing cX0_isGoing 1 (some .boolean), .methodLink RX0 27 yX0_distanceWidth, .static yX0_distanceWidth, .code yX0_distanceWidth cX0_distanceWidth 1 (some .int)])
def wsX0_going_r1 : List Cond := [Cond.methodLink RX0 17 yX0_kind, Cond.instanceMethod yX0_kind, Cond.selects RX0 yX0_kind yX0_kind, Cond.initialized RX0, Cond.code yX0_kind cX0_kind 3 (some .int), Cond.methodLink RX0 7 yX0_formOf, Cond.static yX0_formOf, Cond.code yX0_formOf cX0_formOf 2 (some .int), Cond.fieldLink RX0 66 "WordForms" "FORMS" "[I", Cond.methodLink RX0 13 yX0_isAllowed, Cond.static yX0_isAllowed, Cond.code yX0_isAllowed cX0_isAllowed 2 (some .boolean), Cond.methodLink RX0 46 yX0_bits, Cond.static yX0_bits, Cond.code yX0_bits cX0_bits 3 (some .int), Cond.methodLink RX0 38 yX0_lowBits, Cond.static yX0_lowBits, Cond.code yX0_lowBits cX0_lowBits 1 (some .int), Cond.methodLink RX0 70 yX0_isMovedWithin, Cond.static yX0_isMovedWithin, Cond.code yX0_isMovedWithin cX0_isMovedWithin 1 (some .boolean), Cond.methodLink RX0 73 yX0_isLong, Cond.static yX0_isLong, Cond.code yX0_isLong cX0_isLong 1 (some .boolean)]
def wsX0_going_r2 : List Cond := [Cond.methodLink RX0 76 yX0_isTwo, Cond.static yX0_isTwo, Cond.code yX0_isTwo cX0_isTwo 1 (some .boolean), Cond.methodLink RX0 79 yX0_isCondition, Cond.static yX0_isCondition, Cond.code yX0_isCondition cX0_isCondition 1 (some .boolean), Cond.methodLink RX0 82 yX0_isLoad, Cond.static yX0_isLoad, Cond.code yX0_isLoad cX0_isLoad 2 (some .boolean), Cond.methodLink RX0 85 yX0_isPair, Cond.static yX0_isPair, Cond.code yX0_isPair cX0_isPair 7 (some .boolean), Cond.methodLink RX0 34 yX0_isWithinReach, Cond.static yX0_isWithinReach, Cond.code yX0_isWithinReach cX0_isWithinReach 5 (some .boolean), Cond.constantLong RX0 88 (3), Cond.methodLink RX0 20 yX0_isGoing, Cond.static yX0_isGoing, Cond.code yX0_isGoing cX0_isGoing 1 (some .boolean), Cond.methodLink RX0 27 yX0_distanceWidth, Cond.static yX0_distanceWidth, Cond.code yX0_distanceWidth cX0_distanceWidth 1 (some .int), Cond.methodLink RX0 24 yX0_distancePlace, Cond.static yX0_distancePlace]
def wsX0_going_r3 : List Cond := [Cond.code yX0_distancePlace cX0_distancePlace 1 (some .int)]
def wsX0_going : List Cond := .code yX0_going cX0_going 6 (some .int) :: ((wsX0_going_r1 ++ (wsX0_going_r2 ++ wsX0_going_r3)))
def wsX0_reaches_r1 : List Cond := [Cond.methodLink RX0 17 yX0_kind, Cond.instanceMethod yX0_kind, Cond.selects RX0 yX0_kind yX0_kind, Cond.initialized RX0, Cond.code yX0_kind cX0_kind 3 (some .int), Cond.methodLink RX0 7 yX0_formOf, Cond.static yX0_formOf, Cond.code yX0_formOf cX0_formOf 2 (some .int), Cond.fieldLink RX0 66 "WordForms" "FORMS" "[I", Cond.methodLink RX0 13 yX0_isAllowed, Cond.static yX0_isAllowed, Cond.code yX0_isAllowed cX0_isAllowed 2 (some .boolean), Cond.methodLink RX0 46 yX0_bits, Cond.static yX0_bits, Cond.code yX0_bits cX0_bits 3 (some .int), Cond.methodLink RX0 38 yX0_lowBits, Cond.static yX0_lowBits, Cond.code yX0_lowBits cX0_lowBits 1 (some .int), Cond.methodLink RX0 70 yX0_isMovedWithin, Cond.static yX0_isMovedWithin, Cond.code yX0_isMovedWithin cX0_isMovedWithin 1 (some .boolean), Cond.methodLink RX0 73 yX0_isLong, Cond.static yX0_isLong, Cond.code yX0_isLong cX0_isLong 1 (some .boolean)]
def wsX0_reaches_r2 : List Cond := [Cond.methodLink RX0 76 yX0_isTwo, Cond.static yX0_isTwo, Cond.code yX0_isTwo cX0_isTwo 1 (some .boolean), Cond.methodLink RX0 79 yX0_isCondition, Cond.static yX0_isCondition, Cond.code yX0_isCondition cX0_isCondition 1 (some .boolean), Cond.methodLink RX0 82 yX0_isLoad, Cond.static yX0_isLoad, Cond.code yX0_isLoad cX0_isLoad 2 (some .boolean), Cond.methodLink RX0 85 yX0_isPair, Cond.static yX0_isPair, Cond.code yX0_isPair cX0_isPair 7 (some .boolean), Cond.methodLink RX0 34 yX0_isWithinReach, Cond.static yX0_isWithinReach, Cond.code yX0_isWithinReach cX0_isWithinReach 5 (some .boolean), Cond.constantLong RX0 88 (3), Cond.methodLink RX0 20 yX0_isGoing, Cond.static yX0_isGoing, Cond.code yX0_isGoing cX0_isGoing 1 (some .boolean), Cond.methodLink RX0 27 yX0_distanceWidth, Cond.static yX0_distanceWidth, Cond.code yX0_distanceWidth cX0_distanceWidth 1 (some .int)]
def wsX0_reaches : List Cond := .code yX0_reaches cX0_reaches 4 (some .boolean) :: ((wsX0_reaches_r1 ++ wsX0_reaches_r2))
def wsX0_turned_r1 : List Cond := [Cond.constant RX0 41 (16777216), Cond.methodLink RX0 17 yX0_kind, Cond.instanceMethod yX0_kind, Cond.selects RX0 yX0_kind yX0_kind, Cond.initialized RX0, Cond.code yX0_kind cX0_kind 3 (some .int), Cond.methodLink RX0 7 yX0_formOf, Cond.static yX0_formOf, Cond.code yX0_formOf cX0_formOf 2 (some .int), Cond.fieldLink RX0 66 "WordForms" "FORMS" "[I", Cond.methodLink RX0 13 yX0_isAllowed, Cond.static yX0_isAllowed, Cond.code yX0_isAllowed cX0_isAllowed 2 (some .boolean), Cond.methodLink RX0 46 yX0_bits, Cond.static yX0_bits, Cond.code yX0_bits cX0_bits 3 (some .int), Cond.methodLink RX0 38 yX0_lowBits, Cond.static yX0_lowBits, Cond.code yX0_lowBits cX0_lowBits 1 (some .int), Cond.methodLink RX0 70 yX0_isMovedWithin, Cond.static yX0_isMovedWithin, Cond.code yX0_isMovedWithin cX0_isMovedWithin 1 (some .boolean), Cond.methodLink RX0 73 yX0_isLong, Cond.static yX0_isLong]
def wsX0_turned_r2 : List Cond := [Cond.code yX0_isLong cX0_isLong 1 (some .boolean), Cond.methodLink RX0 76 yX0_isTwo, Cond.static yX0_isTwo, Cond.code yX0_isTwo cX0_isTwo 1 (some .boolean), Cond.methodLink RX0 79 yX0_isCondition, Cond.static yX0_isCondition, Cond.code yX0_isCondition cX0_isCondition 1 (some .boolean), Cond.methodLink RX0 82 yX0_isLoad, Cond.static yX0_isLoad, Cond.code yX0_isLoad cX0_isLoad 2 (some .boolean), Cond.methodLink RX0 85 yX0_isPair, Cond.static yX0_isPair, Cond.code yX0_isPair cX0_isPair 7 (some .boolean)]
def wsX0_turned : List Cond := .code yX0_turned cX0_turned 2 (some .int) :: ((wsX0_turned_r1 ++ wsX0_turned_r2))
def wsX0_page_r1 : List Cond := [Cond.constantLong RX0 42 (-1), Cond.constantLong RX0 44 (4), Cond.methodLink RX0 17 yX0_kind, Cond.instanceMethod yX0_kind, Cond.selects RX0 yX0_kind yX0_kind, Cond.initialized RX0, Cond.code yX0_kind cX0_kind 3 (some .int), Cond.methodLink RX0 7 yX0_formOf, Cond.static yX0_formOf, Cond.code yX0_formOf cX0_formOf 2 (some .int), Cond.fieldLink RX0 66 "WordForms" "FORMS" "[I", Cond.methodLink RX0 13 yX0_isAllowed, Cond.static yX0_isAllowed, Cond.code yX0_isAllowed cX0_isAllowed 2 (some .boolean), Cond.methodLink RX0 46 yX0_bits, Cond.static yX0_bits, Cond.code yX0_bits cX0_bits 3 (some .int), Cond.methodLink RX0 38 yX0_lowBits, Cond.static yX0_lowBits, Cond.code yX0_lowBits cX0_lowBits 1 (some .int), Cond.methodLink RX0 70 yX0_isMovedWithin, Cond.static yX0_isMovedWithin, Cond.code yX0_isMovedWithin cX0_isMovedWithin 1 (some .boolean), Cond.methodLink RX0 73 yX0_isLong]
def wsX0_page_r2 : List Cond := [Cond.static yX0_isLong, Cond.code yX0_isLong cX0_isLong 1 (some .boolean), Cond.methodLink RX0 76 yX0_isTwo, Cond.static yX0_isTwo, Cond.code yX0_isTwo cX0_isTwo 1 (some .boolean), Cond.methodLink RX0 79 yX0_isCondition, Cond.static yX0_isCondition, Cond.code yX0_isCondition cX0_isCondition 1 (some .boolean), Cond.methodLink RX0 82 yX0_isLoad, Cond.static yX0_isLoad, Cond.code yX0_isLoad cX0_isLoad 2 (some .boolean), Cond.methodLink RX0 85 yX0_isPair, Cond.static yX0_isPair, Cond.code yX0_isPair cX0_isPair 7 (some .boolean), Cond.methodLink RX0 30 yX0_signedBits, Cond.static yX0_signedBits, Cond.code yX0_signedBits cX0_signedBits 3 (some .int)]
def wsX0_page : List Cond := .code yX0_page cX0_page 6 (some .long) :: ((wsX0_page_r1 ++ wsX0_page_r2))
def wsX0_paging_r1 : List Cond := [Cond.constantLong RX0 49 (1048576), Cond.constantLong RX0 51 (-1048576), Cond.constant RX0 53 (-1627389921), Cond.methodLink RX0 17 yX0_kind, Cond.instanceMethod yX0_kind, Cond.selects RX0 yX0_kind yX0_kind, Cond.initialized RX0, Cond.code yX0_kind cX0_kind 3 (some .int), Cond.methodLink RX0 7 yX0_formOf, Cond.static yX0_formOf, Cond.code yX0_formOf cX0_formOf 2 (some .int), Cond.fieldLink RX0 66 "WordForms" "FORMS" "[I", Cond.methodLink RX0 13 yX0_isAllowed, Cond.static yX0_isAllowed, Cond.code yX0_isAllowed cX0_isAllowed 2 (some .boolean), Cond.methodLink RX0 46 yX0_bits, Cond.static yX0_bits, Cond.code yX0_bits cX0_bits 3 (some .int), Cond.methodLink RX0 38 yX0_lowBits, Cond.static yX0_lowBits, Cond.code yX0_lowBits cX0_lowBits 1 (some .int), Cond.methodLink RX0 70 yX0_isMovedWithin, Cond.static yX0_isMovedWithin, Cond.code yX0_isMovedWithin cX0_isMovedWithin 1 (some .boolean)]
def wsX0_paging_r2 : List Cond := [Cond.methodLink RX0 73 yX0_isLong, Cond.static yX0_isLong, Cond.code yX0_isLong cX0_isLong 1 (some .boolean), Cond.methodLink RX0 76 yX0_isTwo, Cond.static yX0_isTwo, Cond.code yX0_isTwo cX0_isTwo 1 (some .boolean), Cond.methodLink RX0 79 yX0_isCondition, Cond.static yX0_isCondition, Cond.code yX0_isCondition cX0_isCondition 1 (some .boolean), Cond.methodLink RX0 82 yX0_isLoad, Cond.static yX0_isLoad, Cond.code yX0_isLoad cX0_isLoad 2 (some .boolean), Cond.methodLink RX0 85 yX0_isPair, Cond.static yX0_isPair, Cond.code yX0_isPair cX0_isPair 7 (some .boolean)]
def wsX0_paging : List Cond := .code yX0_paging cX0_paging 11 (some .int) :: ((wsX0_paging_r1 ++ wsX0_paging_r2))
def wsX0_goesOn_r1 : List Cond := [Cond.methodLink RX0 17 yX0_kind, Cond.instanceMethod yX0_kind, Cond.selects RX0 yX0_kind yX0_kind, Cond.initialized RX0, Cond.code yX0_kind cX0_kind 3 (some .int), Cond.methodLink RX0 7 yX0_formOf, Cond.static yX0_formOf, Cond.code yX0_formOf cX0_formOf 2 (some .int), Cond.fieldLink RX0 66 "WordForms" "FORMS" "[I", Cond.methodLink RX0 13 yX0_isAllowed, Cond.static yX0_isAllowed, Cond.code yX0_isAllowed cX0_isAllowed 2 (some .boolean), Cond.methodLink RX0 46 yX0_bits, Cond.static yX0_bits, Cond.code yX0_bits cX0_bits 3 (some .int), Cond.methodLink RX0 38 yX0_lowBits, Cond.static yX0_lowBits, Cond.code yX0_lowBits cX0_lowBits 1 (some .int), Cond.methodLink RX0 70 yX0_isMovedWithin, Cond.static yX0_isMovedWithin, Cond.code yX0_isMovedWithin cX0_isMovedWithin 1 (some .boolean), Cond.methodLink RX0 73 yX0_isLong, Cond.static yX0_isLong, Cond.code yX0_isLong cX0_isLong 1 (some .boolean)]
def wsX0_goesOn_r2 : List Cond := [Cond.methodLink RX0 76 yX0_isTwo, Cond.static yX0_isTwo, Cond.code yX0_isTwo cX0_isTwo 1 (some .boolean), Cond.methodLink RX0 79 yX0_isCondition, Cond.static yX0_isCondition, Cond.code yX0_isCondition cX0_isCondition 1 (some .boolean), Cond.methodLink RX0 82 yX0_isLoad, Cond.static yX0_isLoad, Cond.code yX0_isLoad cX0_isLoad 2 (some .boolean), Cond.methodLink RX0 85 yX0_isPair, Cond.static yX0_isPair, Cond.code yX0_isPair cX0_isPair 7 (some .boolean)]
def wsX0_goesOn : List Cond := .code yX0_goesOn cX0_goesOn 3 (some .boolean) :: ((wsX0_goesOn_r1 ++ wsX0_goesOn_r2))
def wsX0_hasD : List Cond := .code yX0_hasD cX0_hasD 1 (some .boolean) :: ([])
def wsX0_hasN : List Cond := .code yX0_hasN cX0_hasN 1 (some .boolean) :: ([])
def wsX0_hasM : List Cond := .code yX0_hasM cX0_hasM 1 (some .boolean) :: ([])
def wsX0_hasA : List Cond := .code yX0_hasA cX0_hasA 1 (some .boolean) :: ([])
def wsX0_register_r1 : List Cond := [Cond.methodLink RX0 17 yX0_kind, Cond.instanceMethod yX0_kind, Cond.selects RX0 yX0_kind yX0_kind, Cond.initialized RX0, Cond.code yX0_kind cX0_kind 3 (some .int), Cond.methodLink RX0 7 yX0_formOf, Cond.static yX0_formOf, Cond.code yX0_formOf cX0_formOf 2 (some .int), Cond.fieldLink RX0 66 "WordForms" "FORMS" "[I", Cond.methodLink RX0 13 yX0_isAllowed, Cond.static yX0_isAllowed, Cond.code yX0_isAllowed cX0_isAllowed 2 (some .boolean), Cond.methodLink RX0 46 yX0_bits, Cond.static yX0_bits, Cond.code yX0_bits cX0_bits 3 (some .int), Cond.methodLink RX0 38 yX0_lowBits, Cond.static yX0_lowBits, Cond.code yX0_lowBits cX0_lowBits 1 (some .int), Cond.methodLink RX0 70 yX0_isMovedWithin, Cond.static yX0_isMovedWithin, Cond.code yX0_isMovedWithin cX0_isMovedWithin 1 (some .boolean), Cond.methodLink RX0 73 yX0_isLong, Cond.static yX0_isLong, Cond.code yX0_isLong cX0_isLong 1 (some .boolean)]
def wsX0_register_r2 : List Cond := [Cond.methodLink RX0 76 yX0_isTwo, Cond.static yX0_isTwo, Cond.code yX0_isTwo cX0_isTwo 1 (some .boolean), Cond.methodLink RX0 79 yX0_isCondition, Cond.static yX0_isCondition, Cond.code yX0_isCondition cX0_isCondition 1 (some .boolean), Cond.methodLink RX0 82 yX0_isLoad, Cond.static yX0_isLoad, Cond.code yX0_isLoad cX0_isLoad 2 (some .boolean), Cond.methodLink RX0 85 yX0_isPair, Cond.static yX0_isPair, Cond.code yX0_isPair cX0_isPair 7 (some .boolean), Cond.methodLink RX0 54 yX0_hasD, Cond.static yX0_hasD, Cond.code yX0_hasD cX0_hasD 1 (some .boolean), Cond.methodLink RX0 57 yX0_hasN, Cond.static yX0_hasN, Cond.code yX0_hasN cX0_hasN 1 (some .boolean), Cond.methodLink RX0 60 yX0_hasM, Cond.static yX0_hasM, Cond.code yX0_hasM cX0_hasM 1 (some .boolean), Cond.methodLink RX0 63 yX0_hasA, Cond.static yX0_hasA, Cond.code yX0_hasA cX0_hasA 1 (some .boolean)]
def wsX0_register : List Cond := .code yX0_register cX0_register 4 (some .int) :: ((wsX0_register_r1 ++ wsX0_register_r2))
def wsX1_init : List Cond := .code yX1_init cX1_init 1 none :: ([.methodLink RX1 1 objectInit, .instanceMethod objectInit, .code objectInit ⟨#[0xb1]⟩ 1 none])
def wsX1_bits : List Cond := .code yX1_bits cX1_bits 3 (some .int) :: ([])
def wsX1_signed : List Cond := .code yX1_signed cX1_signed 3 (some .int) :: ([])
def wsX1_isMoved : List Cond := .code yX1_isMoved cX1_isMoved 1 (some .boolean) :: ([.methodLink RX1 7 yX1_bits, .static yX1_bits, .initialized RX1, .code yX1_bits cX1_bits 3 (some .int)])
def wsX1_inTwo : List Cond := .code yX1_inTwo cX1_inTwo 4 (some .int) :: ([.methodLink RX1 7 yX1_bits, .static yX1_bits, .initialized RX1, .code yX1_bits cX1_bits 3 (some .int)])
def wsX1_isByRegister : List Cond := .code yX1_isByRegister cX1_isByRegister 1 (some .boolean) :: ([.methodLink RX1 7 yX1_bits, .static yX1_bits, .initialized RX1, .code yX1_bits cX1_bits 3 (some .int)])
def wsX1_isSize : List Cond := .code yX1_isSize cX1_isSize 3 (some .boolean) :: ([.methodLink RX1 7 yX1_bits, .static yX1_bits, .initialized RX1, .code yX1_bits cX1_bits 3 (some .int)])
def wsX1_isPair : List Cond := .code yX1_isPair cX1_isPair 4 (some .boolean) :: ([.methodLink RX1 7 yX1_bits, .static yX1_bits, .initialized RX1, .code yX1_bits cX1_bits 3 (some .int)])
def wsX1_goesByRegister : List Cond := .code yX1_goesByRegister cX1_goesByRegister 2 (some .int) :: ([.methodLink RX1 7 yX1_bits, .static yX1_bits, .initialized RX1, .code yX1_bits cX1_bits 3 (some .int)])
def wsX1_jumps : List Cond := .code yX1_jumps cX1_jumps 4 (some .int) :: ([.constant RX1 36 (-721215457), .methodLink RX1 7 yX1_bits, .static yX1_bits, .initialized RX1, .code yX1_bits cX1_bits 3 (some .int), .methodLink RX1 33 yX1_goesByRegister, .static yX1_goesByRegister, .code yX1_goesByRegister cX1_goesByRegister 2 (some .int)])
def wsX1_kind_r1 : List Cond := [Cond.methodLink RX1 7 yX1_bits, Cond.static yX1_bits, Cond.initialized RX1, Cond.code yX1_bits cX1_bits 3 (some .int), Cond.methodLink RX1 13 yX1_isMoved, Cond.static yX1_isMoved, Cond.code yX1_isMoved cX1_isMoved 1 (some .boolean), Cond.methodLink RX1 17 yX1_inTwo, Cond.static yX1_inTwo, Cond.code yX1_inTwo cX1_inTwo 4 (some .int), Cond.methodLink RX1 21 yX1_isByRegister, Cond.static yX1_isByRegister, Cond.code yX1_isByRegister cX1_isByRegister 1 (some .boolean), Cond.methodLink RX1 24 yX1_isSize, Cond.static yX1_isSize, Cond.code yX1_isSize cX1_isSize 3 (some .boolean), Cond.methodLink RX1 27 yX1_isPair, Cond.static yX1_isPair, Cond.code yX1_isPair cX1_isPair 4 (some .boolean), Cond.methodLink RX1 30 yX1_jumps, Cond.instanceMethod yX1_jumps, Cond.selects RX1 yX1_jumps yX1_jumps, Cond.code yX1_jumps cX1_jumps 4 (some .int), Cond.constant RX1 36 (-721215457)]
def wsX1_kind_r2 : List Cond := [Cond.methodLink RX1 33 yX1_goesByRegister, Cond.static yX1_goesByRegister, Cond.code yX1_goesByRegister cX1_goesByRegister 2 (some .int)]
def wsX1_kind : List Cond := .code yX1_kind cX1_kind 3 (some .int) :: ((wsX1_kind_r1 ++ wsX1_kind_r2))
def wsX1_reach : List Cond := .code yX1_reach cX1_reach 1 (some .int) :: ([.constant RX1 37 (134217728), .constant RX1 38 (1048576), .constant RX1 39 (32768)])
def wsX1_by_r1 : List Cond := [Cond.methodLink RX1 40 yX1_kind, Cond.instanceMethod yX1_kind, Cond.selects RX1 yX1_kind yX1_kind, Cond.initialized RX1, Cond.code yX1_kind cX1_kind 3 (some .int), Cond.methodLink RX1 7 yX1_bits, Cond.static yX1_bits, Cond.code yX1_bits cX1_bits 3 (some .int), Cond.methodLink RX1 13 yX1_isMoved, Cond.static yX1_isMoved, Cond.code yX1_isMoved cX1_isMoved 1 (some .boolean), Cond.methodLink RX1 17 yX1_inTwo, Cond.static yX1_inTwo, Cond.code yX1_inTwo cX1_inTwo 4 (some .int), Cond.methodLink RX1 21 yX1_isByRegister, Cond.static yX1_isByRegister, Cond.code yX1_isByRegister cX1_isByRegister 1 (some .boolean), Cond.methodLink RX1 24 yX1_isSize, Cond.static yX1_isSize, Cond.code yX1_isSize cX1_isSize 3 (some .boolean), Cond.methodLink RX1 27 yX1_isPair, Cond.static yX1_isPair, Cond.code yX1_isPair cX1_isPair 4 (some .boolean), Cond.methodLink RX1 30 yX1_jumps]
def wsX1_by_r2 : List Cond := [Cond.instanceMethod yX1_jumps, Cond.selects RX1 yX1_jumps yX1_jumps, Cond.code yX1_jumps cX1_jumps 4 (some .int), Cond.constant RX1 36 (-721215457), Cond.methodLink RX1 33 yX1_goesByRegister, Cond.static yX1_goesByRegister, Cond.code yX1_goesByRegister cX1_goesByRegister 2 (some .int), Cond.methodLink RX1 43 yX1_signed, Cond.static yX1_signed, Cond.code yX1_signed cX1_signed 3 (some .int)]
def wsX1_by : List Cond := .code yX1_by cX1_by 3 (some .int) :: ((wsX1_by_r1 ++ wsX1_by_r2))
def wsX1_reaches_r1 : List Cond := [Cond.constantLong RX1 49 (4), Cond.methodLink RX1 40 yX1_kind, Cond.instanceMethod yX1_kind, Cond.selects RX1 yX1_kind yX1_kind, Cond.initialized RX1, Cond.code yX1_kind cX1_kind 3 (some .int), Cond.methodLink RX1 7 yX1_bits, Cond.static yX1_bits, Cond.code yX1_bits cX1_bits 3 (some .int), Cond.methodLink RX1 13 yX1_isMoved, Cond.static yX1_isMoved, Cond.code yX1_isMoved cX1_isMoved 1 (some .boolean), Cond.methodLink RX1 17 yX1_inTwo, Cond.static yX1_inTwo, Cond.code yX1_inTwo cX1_inTwo 4 (some .int), Cond.methodLink RX1 21 yX1_isByRegister, Cond.static yX1_isByRegister, Cond.code yX1_isByRegister cX1_isByRegister 1 (some .boolean), Cond.methodLink RX1 24 yX1_isSize, Cond.static yX1_isSize, Cond.code yX1_isSize cX1_isSize 3 (some .boolean), Cond.methodLink RX1 27 yX1_isPair, Cond.static yX1_isPair, Cond.code yX1_isPair cX1_isPair 4 (some .boolean)]
def wsX1_reaches_r2 : List Cond := [Cond.methodLink RX1 30 yX1_jumps, Cond.instanceMethod yX1_jumps, Cond.selects RX1 yX1_jumps yX1_jumps, Cond.code yX1_jumps cX1_jumps 4 (some .int), Cond.constant RX1 36 (-721215457), Cond.methodLink RX1 33 yX1_goesByRegister, Cond.static yX1_goesByRegister, Cond.code yX1_goesByRegister cX1_goesByRegister 2 (some .int), Cond.methodLink RX1 46 yX1_reach, Cond.static yX1_reach, Cond.code yX1_reach cX1_reach 1 (some .int), Cond.constant RX1 37 (134217728), Cond.constant RX1 38 (1048576), Cond.constant RX1 39 (32768)]
def wsX1_reaches : List Cond := .code yX1_reaches cX1_reaches 5 (some .boolean) :: ((wsX1_reaches_r1 ++ wsX1_reaches_r2))
def wsX1_going_r1 : List Cond := [Cond.methodLink RX1 51 yX1_reaches, Cond.instanceMethod yX1_reaches, Cond.selects RX1 yX1_reaches yX1_reaches, Cond.initialized RX1, Cond.code yX1_reaches cX1_reaches 5 (some .boolean), Cond.constantLong RX1 49 (4), Cond.methodLink RX1 40 yX1_kind, Cond.instanceMethod yX1_kind, Cond.selects RX1 yX1_kind yX1_kind, Cond.code yX1_kind cX1_kind 3 (some .int), Cond.methodLink RX1 7 yX1_bits, Cond.static yX1_bits, Cond.code yX1_bits cX1_bits 3 (some .int), Cond.methodLink RX1 13 yX1_isMoved, Cond.static yX1_isMoved, Cond.code yX1_isMoved cX1_isMoved 1 (some .boolean), Cond.methodLink RX1 17 yX1_inTwo, Cond.static yX1_inTwo, Cond.code yX1_inTwo cX1_inTwo 4 (some .int), Cond.methodLink RX1 21 yX1_isByRegister, Cond.static yX1_isByRegister, Cond.code yX1_isByRegister cX1_isByRegister 1 (some .boolean), Cond.methodLink RX1 24 yX1_isSize, Cond.static yX1_isSize]
def wsX1_going_r2 : List Cond := [Cond.code yX1_isSize cX1_isSize 3 (some .boolean), Cond.methodLink RX1 27 yX1_isPair, Cond.static yX1_isPair, Cond.code yX1_isPair cX1_isPair 4 (some .boolean), Cond.methodLink RX1 30 yX1_jumps, Cond.instanceMethod yX1_jumps, Cond.selects RX1 yX1_jumps yX1_jumps, Cond.code yX1_jumps cX1_jumps 4 (some .int), Cond.constant RX1 36 (-721215457), Cond.methodLink RX1 33 yX1_goesByRegister, Cond.static yX1_goesByRegister, Cond.code yX1_goesByRegister cX1_goesByRegister 2 (some .int), Cond.methodLink RX1 46 yX1_reach, Cond.static yX1_reach, Cond.code yX1_reach cX1_reach 1 (some .int), Cond.constant RX1 37 (134217728), Cond.constant RX1 38 (1048576), Cond.constant RX1 39 (32768)]
def wsX1_going : List Cond := .code yX1_going cX1_going 6 (some .int) :: ((wsX1_going_r1 ++ wsX1_going_r2))
def wsX1_turned_r1 : List Cond := [Cond.constant RX1 55 (16777216), Cond.methodLink RX1 40 yX1_kind, Cond.instanceMethod yX1_kind, Cond.selects RX1 yX1_kind yX1_kind, Cond.initialized RX1, Cond.code yX1_kind cX1_kind 3 (some .int), Cond.methodLink RX1 7 yX1_bits, Cond.static yX1_bits, Cond.code yX1_bits cX1_bits 3 (some .int), Cond.methodLink RX1 13 yX1_isMoved, Cond.static yX1_isMoved, Cond.code yX1_isMoved cX1_isMoved 1 (some .boolean), Cond.methodLink RX1 17 yX1_inTwo, Cond.static yX1_inTwo, Cond.code yX1_inTwo cX1_inTwo 4 (some .int), Cond.methodLink RX1 21 yX1_isByRegister, Cond.static yX1_isByRegister, Cond.code yX1_isByRegister cX1_isByRegister 1 (some .boolean), Cond.methodLink RX1 24 yX1_isSize, Cond.static yX1_isSize, Cond.code yX1_isSize cX1_isSize 3 (some .boolean), Cond.methodLink RX1 27 yX1_isPair, Cond.static yX1_isPair, Cond.code yX1_isPair cX1_isPair 4 (some .boolean)]
def wsX1_turned_r2 : List Cond := [Cond.methodLink RX1 30 yX1_jumps, Cond.instanceMethod yX1_jumps, Cond.selects RX1 yX1_jumps yX1_jumps, Cond.code yX1_jumps cX1_jumps 4 (some .int), Cond.constant RX1 36 (-721215457), Cond.methodLink RX1 33 yX1_goesByRegister, Cond.static yX1_goesByRegister, Cond.code yX1_goesByRegister cX1_goesByRegister 2 (some .int)]
def wsX1_turned : List Cond := .code yX1_turned cX1_turned 4 (some .int) :: ((wsX1_turned_r1 ++ wsX1_turned_r2))
def wsX1_page_r1 : List Cond := [Cond.constantLong RX1 56 (-1), Cond.constantLong RX1 49 (4), Cond.constantLong RX1 58 (4095), Cond.constantLong RX1 60 (4096), Cond.methodLink RX1 40 yX1_kind, Cond.instanceMethod yX1_kind, Cond.selects RX1 yX1_kind yX1_kind, Cond.initialized RX1, Cond.code yX1_kind cX1_kind 3 (some .int), Cond.methodLink RX1 7 yX1_bits, Cond.static yX1_bits, Cond.code yX1_bits cX1_bits 3 (some .int), Cond.methodLink RX1 13 yX1_isMoved, Cond.static yX1_isMoved, Cond.code yX1_isMoved cX1_isMoved 1 (some .boolean), Cond.methodLink RX1 17 yX1_inTwo, Cond.static yX1_inTwo, Cond.code yX1_inTwo cX1_inTwo 4 (some .int), Cond.methodLink RX1 21 yX1_isByRegister, Cond.static yX1_isByRegister, Cond.code yX1_isByRegister cX1_isByRegister 1 (some .boolean), Cond.methodLink RX1 24 yX1_isSize, Cond.static yX1_isSize, Cond.code yX1_isSize cX1_isSize 3 (some .boolean)]
def wsX1_page_r2 : List Cond := [Cond.methodLink RX1 27 yX1_isPair, Cond.static yX1_isPair, Cond.code yX1_isPair cX1_isPair 4 (some .boolean), Cond.methodLink RX1 30 yX1_jumps, Cond.instanceMethod yX1_jumps, Cond.selects RX1 yX1_jumps yX1_jumps, Cond.code yX1_jumps cX1_jumps 4 (some .int), Cond.constant RX1 36 (-721215457), Cond.methodLink RX1 33 yX1_goesByRegister, Cond.static yX1_goesByRegister, Cond.code yX1_goesByRegister cX1_goesByRegister 2 (some .int), Cond.methodLink RX1 43 yX1_signed, Cond.static yX1_signed, Cond.code yX1_signed cX1_signed 3 (some .int)]
def wsX1_page : List Cond := .code yX1_page cX1_page 6 (some .long) :: ((wsX1_page_r1 ++ wsX1_page_r2))
def wsX1_paging_r1 : List Cond := [Cond.constantLong RX1 58 (4095), Cond.constantLong RX1 60 (4096), Cond.constantLong RX1 62 (-1048576), Cond.constantLong RX1 64 (1048575), Cond.constantLong RX1 66 (3), Cond.constant RX1 68 (1879048192), Cond.constant RX1 69 (536870912), Cond.constantLong RX1 49 (4), Cond.constantLong RX1 70 (524287), Cond.methodLink RX1 40 yX1_kind, Cond.instanceMethod yX1_kind, Cond.selects RX1 yX1_kind yX1_kind, Cond.initialized RX1, Cond.code yX1_kind cX1_kind 3 (some .int), Cond.methodLink RX1 7 yX1_bits, Cond.static yX1_bits, Cond.code yX1_bits cX1_bits 3 (some .int), Cond.methodLink RX1 13 yX1_isMoved, Cond.static yX1_isMoved, Cond.code yX1_isMoved cX1_isMoved 1 (some .boolean), Cond.methodLink RX1 17 yX1_inTwo, Cond.static yX1_inTwo, Cond.code yX1_inTwo cX1_inTwo 4 (some .int), Cond.methodLink RX1 21 yX1_isByRegister]
def wsX1_paging_r2 : List Cond := [Cond.static yX1_isByRegister, Cond.code yX1_isByRegister cX1_isByRegister 1 (some .boolean), Cond.methodLink RX1 24 yX1_isSize, Cond.static yX1_isSize, Cond.code yX1_isSize cX1_isSize 3 (some .boolean), Cond.methodLink RX1 27 yX1_isPair, Cond.static yX1_isPair, Cond.code yX1_isPair cX1_isPair 4 (some .boolean), Cond.methodLink RX1 30 yX1_jumps, Cond.instanceMethod yX1_jumps, Cond.selects RX1 yX1_jumps yX1_jumps, Cond.code yX1_jumps cX1_jumps 4 (some .int), Cond.constant RX1 36 (-721215457), Cond.methodLink RX1 33 yX1_goesByRegister, Cond.static yX1_goesByRegister, Cond.code yX1_goesByRegister cX1_goesByRegister 2 (some .int)]
def wsX1_paging : List Cond := .code yX1_paging cX1_paging 9 (some .int) :: ((wsX1_paging_r1 ++ wsX1_paging_r2))
def wsX1_goesOn_r1 : List Cond := [Cond.methodLink RX1 40 yX1_kind, Cond.instanceMethod yX1_kind, Cond.selects RX1 yX1_kind yX1_kind, Cond.initialized RX1, Cond.code yX1_kind cX1_kind 3 (some .int), Cond.methodLink RX1 7 yX1_bits, Cond.static yX1_bits, Cond.code yX1_bits cX1_bits 3 (some .int), Cond.methodLink RX1 13 yX1_isMoved, Cond.static yX1_isMoved, Cond.code yX1_isMoved cX1_isMoved 1 (some .boolean), Cond.methodLink RX1 17 yX1_inTwo, Cond.static yX1_inTwo, Cond.code yX1_inTwo cX1_inTwo 4 (some .int), Cond.methodLink RX1 21 yX1_isByRegister, Cond.static yX1_isByRegister, Cond.code yX1_isByRegister cX1_isByRegister 1 (some .boolean), Cond.methodLink RX1 24 yX1_isSize, Cond.static yX1_isSize, Cond.code yX1_isSize cX1_isSize 3 (some .boolean), Cond.methodLink RX1 27 yX1_isPair, Cond.static yX1_isPair, Cond.code yX1_isPair cX1_isPair 4 (some .boolean), Cond.methodLink RX1 30 yX1_jumps]
def wsX1_goesOn_r2 : List Cond := [Cond.instanceMethod yX1_jumps, Cond.selects RX1 yX1_jumps yX1_jumps, Cond.code yX1_jumps cX1_jumps 4 (some .int), Cond.constant RX1 36 (-721215457), Cond.methodLink RX1 33 yX1_goesByRegister, Cond.static yX1_goesByRegister, Cond.code yX1_goesByRegister cX1_goesByRegister 2 (some .int)]
def wsX1_goesOn : List Cond := .code yX1_goesOn cX1_goesOn 3 (some .boolean) :: ((wsX1_goesOn_r1 ++ wsX1_goesOn_r2))
def wsX1_register_r1 : List Cond := [Cond.methodLink RX1 40 yX1_kind, Cond.instanceMethod yX1_kind, Cond.selects RX1 yX1_kind yX1_kind, Cond.initialized RX1, Cond.code yX1_kind cX1_kind 3 (some .int), Cond.methodLink RX1 7 yX1_bits, Cond.static yX1_bits, Cond.code yX1_bits cX1_bits 3 (some .int), Cond.methodLink RX1 13 yX1_isMoved, Cond.static yX1_isMoved, Cond.code yX1_isMoved cX1_isMoved 1 (some .boolean), Cond.methodLink RX1 17 yX1_inTwo, Cond.static yX1_inTwo, Cond.code yX1_inTwo cX1_inTwo 4 (some .int), Cond.methodLink RX1 21 yX1_isByRegister, Cond.static yX1_isByRegister, Cond.code yX1_isByRegister cX1_isByRegister 1 (some .boolean), Cond.methodLink RX1 24 yX1_isSize, Cond.static yX1_isSize, Cond.code yX1_isSize cX1_isSize 3 (some .boolean), Cond.methodLink RX1 27 yX1_isPair, Cond.static yX1_isPair, Cond.code yX1_isPair cX1_isPair 4 (some .boolean), Cond.methodLink RX1 30 yX1_jumps]
def wsX1_register_r2 : List Cond := [Cond.instanceMethod yX1_jumps, Cond.selects RX1 yX1_jumps yX1_jumps, Cond.code yX1_jumps cX1_jumps 4 (some .int), Cond.constant RX1 36 (-721215457), Cond.methodLink RX1 33 yX1_goesByRegister, Cond.static yX1_goesByRegister, Cond.code yX1_goesByRegister cX1_goesByRegister 2 (some .int)]
def wsX1_register : List Cond := .code yX1_register cX1_register 6 (some .int) :: ((wsX1_register_r1 ++ wsX1_register_r2))
def wsL_law_r1 : List Cond := [Cond.classLink RL 7 RX0, Cond.instantiable RX0 0, Cond.initialized RX0, Cond.classLink RL 10 RX1, Cond.instantiable RX1 0, Cond.initialized RX1, Cond.constantLong RL 27 (4294967295), Cond.methodLink RL 9 yX0_init, Cond.instanceMethod yX0_init, Cond.code yX0_init cX0_init 1 none, Cond.methodLink RX0 1 objectInit, Cond.instanceMethod objectInit, Cond.code objectInit ⟨#[0xb1]⟩ 1 none, Cond.methodLink RL 12 yX1_init, Cond.instanceMethod yX1_init, Cond.code yX1_init cX1_init 1 none, Cond.methodLink RX1 1 objectInit, Cond.methodLink RL 13 yX0_kind, Cond.instanceMethod yX0_kind, Cond.selects RX0 yX0_kind yX0_kind, Cond.code yX0_kind cX0_kind 3 (some .int), Cond.methodLink RX0 7 yX0_formOf, Cond.static yX0_formOf, Cond.code yX0_formOf cX0_formOf 2 (some .int)]
def wsL_law_r2 : List Cond := [Cond.fieldLink RX0 66 "WordForms" "FORMS" "[I", Cond.methodLink RX0 13 yX0_isAllowed, Cond.static yX0_isAllowed, Cond.code yX0_isAllowed cX0_isAllowed 2 (some .boolean), Cond.methodLink RX0 46 yX0_bits, Cond.static yX0_bits, Cond.code yX0_bits cX0_bits 3 (some .int), Cond.methodLink RX0 38 yX0_lowBits, Cond.static yX0_lowBits, Cond.code yX0_lowBits cX0_lowBits 1 (some .int), Cond.methodLink RX0 70 yX0_isMovedWithin, Cond.static yX0_isMovedWithin, Cond.code yX0_isMovedWithin cX0_isMovedWithin 1 (some .boolean), Cond.methodLink RX0 73 yX0_isLong, Cond.static yX0_isLong, Cond.code yX0_isLong cX0_isLong 1 (some .boolean), Cond.methodLink RX0 76 yX0_isTwo, Cond.static yX0_isTwo, Cond.code yX0_isTwo cX0_isTwo 1 (some .boolean), Cond.methodLink RX0 79 yX0_isCondition, Cond.static yX0_isCondition, Cond.code yX0_isCondition cX0_isCondition 1 (some .boolean), Cond.methodLink RX0 82 yX0_isLoad, Cond.static yX0_isLoad]
def wsL_law_r3 : List Cond := [Cond.code yX0_isLoad cX0_isLoad 2 (some .boolean), Cond.methodLink RX0 85 yX0_isPair, Cond.static yX0_isPair, Cond.code yX0_isPair cX0_isPair 7 (some .boolean), Cond.methodLink RL 17 yX1_kind, Cond.instanceMethod yX1_kind, Cond.selects RX1 yX1_kind yX1_kind, Cond.code yX1_kind cX1_kind 3 (some .int), Cond.methodLink RX1 7 yX1_bits, Cond.static yX1_bits, Cond.code yX1_bits cX1_bits 3 (some .int), Cond.methodLink RX1 13 yX1_isMoved, Cond.static yX1_isMoved, Cond.code yX1_isMoved cX1_isMoved 1 (some .boolean), Cond.methodLink RX1 17 yX1_inTwo, Cond.static yX1_inTwo, Cond.code yX1_inTwo cX1_inTwo 4 (some .int), Cond.methodLink RX1 21 yX1_isByRegister, Cond.static yX1_isByRegister, Cond.code yX1_isByRegister cX1_isByRegister 1 (some .boolean), Cond.methodLink RX1 24 yX1_isSize, Cond.static yX1_isSize, Cond.code yX1_isSize cX1_isSize 3 (some .boolean), Cond.methodLink RX1 27 yX1_isPair]
def wsL_law_r4 : List Cond := [Cond.static yX1_isPair, Cond.code yX1_isPair cX1_isPair 4 (some .boolean), Cond.methodLink RX1 30 yX1_jumps, Cond.instanceMethod yX1_jumps, Cond.selects RX1 yX1_jumps yX1_jumps, Cond.code yX1_jumps cX1_jumps 4 (some .int), Cond.constant RX1 36 (-721215457), Cond.methodLink RX1 33 yX1_goesByRegister, Cond.static yX1_goesByRegister, Cond.code yX1_goesByRegister cX1_goesByRegister 2 (some .int), Cond.methodLink RL 18 yX0_by, Cond.instanceMethod yX0_by, Cond.selects RX0 yX0_by yX0_by, Cond.code yX0_by cX0_by 3 (some .int), Cond.methodLink RX0 17 yX0_kind, Cond.methodLink RX0 20 yX0_isGoing, Cond.static yX0_isGoing, Cond.code yX0_isGoing cX0_isGoing 1 (some .boolean), Cond.methodLink RX0 24 yX0_distancePlace, Cond.static yX0_distancePlace, Cond.code yX0_distancePlace cX0_distancePlace 1 (some .int), Cond.methodLink RX0 27 yX0_distanceWidth, Cond.static yX0_distanceWidth, Cond.code yX0_distanceWidth cX0_distanceWidth 1 (some .int)]
def wsL_law_r5 : List Cond := [Cond.methodLink RX0 30 yX0_signedBits, Cond.static yX0_signedBits, Cond.code yX0_signedBits cX0_signedBits 3 (some .int), Cond.methodLink RL 21 yX1_by, Cond.instanceMethod yX1_by, Cond.selects RX1 yX1_by yX1_by, Cond.code yX1_by cX1_by 3 (some .int), Cond.methodLink RX1 40 yX1_kind, Cond.methodLink RX1 43 yX1_signed, Cond.static yX1_signed, Cond.code yX1_signed cX1_signed 3 (some .int), Cond.methodLink RL 22 yX0_going, Cond.instanceMethod yX0_going, Cond.selects RX0 yX0_going yX0_going, Cond.code yX0_going cX0_going 6 (some .int), Cond.methodLink RX0 34 yX0_isWithinReach, Cond.static yX0_isWithinReach, Cond.code yX0_isWithinReach cX0_isWithinReach 5 (some .boolean), Cond.constantLong RX0 88 (3), Cond.methodLink RL 26 yX1_going, Cond.instanceMethod yX1_going, Cond.selects RX1 yX1_going yX1_going, Cond.code yX1_going cX1_going 6 (some .int), Cond.methodLink RX1 51 yX1_reaches]
def wsL_law_r6 : List Cond := [Cond.instanceMethod yX1_reaches, Cond.selects RX1 yX1_reaches yX1_reaches, Cond.code yX1_reaches cX1_reaches 5 (some .boolean), Cond.constantLong RX1 49 (4), Cond.methodLink RX1 46 yX1_reach, Cond.static yX1_reach, Cond.code yX1_reach cX1_reach 1 (some .int), Cond.constant RX1 37 (134217728), Cond.constant RX1 38 (1048576), Cond.constant RX1 39 (32768), Cond.methodLink RL 29 yX0_reaches, Cond.instanceMethod yX0_reaches, Cond.selects RX0 yX0_reaches yX0_reaches, Cond.code yX0_reaches cX0_reaches 4 (some .boolean), Cond.methodLink RL 33 yX1_reaches, Cond.methodLink RL 34 yX0_turned, Cond.instanceMethod yX0_turned, Cond.selects RX0 yX0_turned yX0_turned, Cond.code yX0_turned cX0_turned 2 (some .int), Cond.constant RX0 41 (16777216), Cond.methodLink RL 37 yX1_turned, Cond.instanceMethod yX1_turned, Cond.selects RX1 yX1_turned yX1_turned, Cond.code yX1_turned cX1_turned 4 (some .int)]
def wsL_law_r7 : List Cond := [Cond.constant RX1 55 (16777216), Cond.methodLink RL 38 yX0_page, Cond.instanceMethod yX0_page, Cond.selects RX0 yX0_page yX0_page, Cond.code yX0_page cX0_page 6 (some .long), Cond.constantLong RX0 42 (-1), Cond.constantLong RX0 44 (4), Cond.methodLink RL 42 yX1_page, Cond.instanceMethod yX1_page, Cond.selects RX1 yX1_page yX1_page, Cond.code yX1_page cX1_page 6 (some .long), Cond.constantLong RX1 56 (-1), Cond.constantLong RX1 58 (4095), Cond.constantLong RX1 60 (4096), Cond.methodLink RL 43 yX0_paging, Cond.instanceMethod yX0_paging, Cond.selects RX0 yX0_paging yX0_paging, Cond.code yX0_paging cX0_paging 11 (some .int), Cond.constantLong RX0 49 (1048576), Cond.constantLong RX0 51 (-1048576), Cond.constant RX0 53 (-1627389921), Cond.methodLink RL 47 yX1_paging, Cond.instanceMethod yX1_paging, Cond.selects RX1 yX1_paging yX1_paging]
def wsL_law_r8 : List Cond := [Cond.code yX1_paging cX1_paging 9 (some .int), Cond.constantLong RX1 62 (-1048576), Cond.constantLong RX1 64 (1048575), Cond.constantLong RX1 66 (3), Cond.constant RX1 68 (1879048192), Cond.constant RX1 69 (536870912), Cond.constantLong RX1 70 (524287), Cond.methodLink RL 48 yX0_goesOn, Cond.instanceMethod yX0_goesOn, Cond.selects RX0 yX0_goesOn yX0_goesOn, Cond.code yX0_goesOn cX0_goesOn 3 (some .boolean), Cond.methodLink RL 52 yX1_goesOn, Cond.instanceMethod yX1_goesOn, Cond.selects RX1 yX1_goesOn yX1_goesOn, Cond.code yX1_goesOn cX1_goesOn 3 (some .boolean), Cond.methodLink RL 53 yX0_register, Cond.instanceMethod yX0_register, Cond.selects RX0 yX0_register yX0_register, Cond.code yX0_register cX0_register 4 (some .int), Cond.methodLink RX0 54 yX0_hasD, Cond.static yX0_hasD, Cond.code yX0_hasD cX0_hasD 1 (some .boolean), Cond.methodLink RX0 57 yX0_hasN, Cond.static yX0_hasN]
def wsL_law_r9 : List Cond := [Cond.code yX0_hasN cX0_hasN 1 (some .boolean), Cond.methodLink RX0 60 yX0_hasM, Cond.static yX0_hasM, Cond.code yX0_hasM cX0_hasM 1 (some .boolean), Cond.methodLink RX0 63 yX0_hasA, Cond.static yX0_hasA, Cond.code yX0_hasA cX0_hasA 1 (some .boolean), Cond.methodLink RL 56 yX1_register, Cond.instanceMethod yX1_register, Cond.selects RX1 yX1_register yX1_register, Cond.code yX1_register cX1_register 6 (some .int)]
def wsL_law : List Cond := (wsL_law_r1 ++ (wsL_law_r2 ++ (wsL_law_r3 ++ (wsL_law_r4 ++ (wsL_law_r5 ++ (wsL_law_r6 ++ (wsL_law_r7 ++ (wsL_law_r8 ++ wsL_law_r9)))))))) ++ wsX00 ++ wsX10 ++ ([] : List Cond)
set_option maxRecDepth 20000 in
theorem wsL_law_in : ∀ w ∈ wsL_law, w ∈ lw_tbl := fun w h => (goodIn_p wsL_law [8, 11, 120, 16, 19, 24, 27, 30, 33, 36, 39, 42, 45, 48, 126, 129, 132, 135, 138, 141, 144, 148, 151, 52, 56, 59, 62, 65, 156, 160, 69, 72, 175, 164, 167, 77, 81, 180, 86, 185, 92, 192, 99, 202, 103, 106, 109, 112, 115, 206] (by decide +kernel) (by decide +kernel) w h).1
theorem inlX0 : ∀ w ∈ wsX00, w ∈ wsL_law := fun _ h => List.mem_append_left _ (List.mem_append_left _ (List.mem_append_right _ h))
theorem inX0 : ∀ w ∈ wsX00, w ∈ lw_tbl := fun w h => wsL_law_in w (inlX0 w h)
theorem inlX1 : ∀ w ∈ wsX10, w ∈ wsL_law := fun _ h => List.mem_append_left _ (List.mem_append_right _ h)
theorem inX1 : ∀ w ∈ wsX10, w ∈ lw_tbl := fun w h => wsL_law_in w (inlX1 w h)
end
section
theorem dX0_init_0 : decode cX0_init 0 = .ok (.aload_n 0, 1) := by decide +kernel
theorem dX0_init_1 : decode cX0_init 1 = .ok (.invokespecial 1, 3) := by decide +kernel
theorem dX0_init_4 : decode cX0_init 4 = .ok (.return_, 1) := by decide +kernel
set_option maxRecDepth 20000 in
theorem ggX0_kind_X0_formOf : GoodIn wsX0_kind wsX0_formOf := goodIn_r _ [4, 5] (by decide +kernel) (by decide +kernel)
set_option maxRecDepth 20000 in
theorem gX0_kind_X0_formOf : GoodIn wsX0_kind (va_wsS RX0 7 yX0_formOf wsX0_formOf) := goodIn_app (goodIn_of _ (by decide +kernel)) ggX0_kind_X0_formOf
set_option maxRecDepth 20000 in
theorem ggX0_kind_X0_isAllowed : GoodIn wsX0_kind wsX0_isAllowed := goodIn_r _ [8, 9, 10, 3, 11, 12, 13, 14, 15, 16, 17, 18, 19, 20, 21, 22, 23, 24, 25, 26, 27, 28, 29, 30, 31, 32] (by decide +kernel) (by decide +kernel)
set_option maxRecDepth 20000 in
theorem gX0_kind_X0_isAllowed : GoodIn wsX0_kind (va_wsS RX0 13 yX0_isAllowed wsX0_isAllowed) := goodIn_app (goodIn_of _ (by decide +kernel)) ggX0_kind_X0_isAllowed
theorem dX0_kind_0 : decode cX0_kind 0 = .ok (.iload_n 1, 1) := by decide +kernel
theorem dX0_kind_1 : decode cX0_kind 1 = .ok (.invokestatic 7, 3) := by decide +kernel
theorem dX0_kind_4 : decode cX0_kind 4 = .ok (.istore_n 2, 1) := by decide +kernel
theorem dX0_kind_5 : decode cX0_kind 5 = .ok (.iload_n 2, 1) := by decide +kernel
theorem dX0_kind_6 : decode cX0_kind 6 = .ok (.iload_n 1, 1) := by decide +kernel
theorem dX0_kind_7 : decode cX0_kind 7 = .ok (.invokestatic 13, 3) := by decide +kernel
theorem dX0_kind_10 : decode cX0_kind 10 = .ok (.ifCond .eq 7, 3) := by decide +kernel
theorem dX0_kind_13 : decode cX0_kind 13 = .ok (.iload_n 2, 1) := by decide +kernel
theorem dX0_kind_14 : decode cX0_kind 14 = .ok (.goto 4, 3) := by decide +kernel
theorem dX0_kind_17 : decode cX0_kind 17 = .ok (.iconst 0, 1) := by decide +kernel
theorem dX0_kind_18 : decode cX0_kind 18 = .ok (.ireturn, 1) := by decide +kernel
set_option maxRecDepth 20000 in
theorem ggX0_by_X0_kind : GoodIn wsX0_by wsX0_kind := goodIn_r _ [5, 6, 7, 4, 8, 9, 10, 11, 12, 13, 14, 15, 16, 17, 18, 19, 20, 21, 22, 23, 24, 25, 26, 27, 28, 29, 30, 31, 32, 33, 34, 35, 36] (by decide +kernel) (by decide +kernel)
set_option maxRecDepth 20000 in
theorem gX0_by_X0_kind : GoodIn wsX0_by (wsV RX0 17 RX0 yX0_kind wsX0_kind) := goodIn_app (goodIn_of _ (by decide +kernel)) ggX0_by_X0_kind
set_option maxRecDepth 20000 in
theorem ggX0_by_X0_isGoing : GoodIn wsX0_by wsX0_isGoing := goodIn_r _ [39] (by decide +kernel) (by decide +kernel)
set_option maxRecDepth 20000 in
theorem gX0_by_X0_isGoing : GoodIn wsX0_by (va_wsS RX0 20 yX0_isGoing wsX0_isGoing) := goodIn_app (goodIn_of _ (by decide +kernel)) ggX0_by_X0_isGoing
set_option maxRecDepth 20000 in
theorem ggX0_by_X0_distancePlace : GoodIn wsX0_by wsX0_distancePlace := goodIn_r _ [42] (by decide +kernel) (by decide +kernel)
set_option maxRecDepth 20000 in
theorem gX0_by_X0_distancePlace : GoodIn wsX0_by (va_wsS RX0 24 yX0_distancePlace wsX0_distancePlace) := goodIn_app (goodIn_of _ (by decide +kernel)) ggX0_by_X0_distancePlace
set_option maxRecDepth 20000 in
theorem ggX0_by_X0_distanceWidth : GoodIn wsX0_by wsX0_distanceWidth := goodIn_r _ [45] (by decide +kernel) (by decide +kernel)
set_option maxRecDepth 20000 in
theorem gX0_by_X0_distanceWidth : GoodIn wsX0_by (va_wsS RX0 27 yX0_distanceWidth wsX0_distanceWidth) := goodIn_app (goodIn_of _ (by decide +kernel)) ggX0_by_X0_distanceWidth
set_option maxRecDepth 20000 in
theorem ggX0_by_X0_signedBits : GoodIn wsX0_by wsX0_signedBits := goodIn_r _ [48] (by decide +kernel) (by decide +kernel)
set_option maxRecDepth 20000 in
theorem gX0_by_X0_signedBits : GoodIn wsX0_by (va_wsS RX0 30 yX0_signedBits wsX0_signedBits) := goodIn_app (goodIn_of _ (by decide +kernel)) ggX0_by_X0_signedBits
theorem dX0_by_0 : decode cX0_by 0 = .ok (.aload_n 0, 1) := by decide +kernel
theorem dX0_by_1 : decode cX0_by 1 = .ok (.iload_n 1, 1) := by decide +kernel
theorem dX0_by_2 : decode cX0_by 2 = .ok (.invokevirtual 17, 3) := by decide +kernel
theorem dX0_by_5 : decode cX0_by 5 = .ok (.istore_n 2, 1) := by decide +kernel
theorem dX0_by_6 : decode cX0_by 6 = .ok (.iload_n 2, 1) := by decide +kernel
theorem dX0_by_7 : decode cX0_by 7 = .ok (.invokestatic 20, 3) := by decide +kernel
theorem dX0_by_10 : decode cX0_by 10 = .ok (.ifCond .ne 5, 3) := by decide +kernel
theorem dX0_by_13 : decode cX0_by 13 = .ok (.iconst 1, 1) := by decide +kernel
theorem dX0_by_14 : decode cX0_by 14 = .ok (.ireturn, 1) := by decide +kernel
theorem dX0_by_15 : decode cX0_by 15 = .ok (.iload_n 1, 1) := by decide +kernel
theorem dX0_by_16 : decode cX0_by 16 = .ok (.iload_n 2, 1) := by decide +kernel
theorem dX0_by_17 : decode cX0_by 17 = .ok (.invokestatic 24, 3) := by decide +kernel
theorem dX0_by_20 : decode cX0_by 20 = .ok (.iload_n 2, 1) := by decide +kernel
theorem dX0_by_21 : decode cX0_by 21 = .ok (.invokestatic 27, 3) := by decide +kernel
theorem dX0_by_24 : decode cX0_by 24 = .ok (.invokestatic 30, 3) := by decide +kernel
theorem dX0_by_27 : decode cX0_by 27 = .ok (.iconst 4, 1) := by decide +kernel
theorem dX0_by_28 : decode cX0_by 28 = .ok (.imul, 1) := by decide +kernel
theorem dX0_by_29 : decode cX0_by 29 = .ok (.ireturn, 1) := by decide +kernel
set_option maxRecDepth 20000 in
theorem ggX0_going_X0_kind : GoodIn wsX0_going wsX0_kind := goodIn_r _ [5, 6, 7, 4, 8, 9, 10, 11, 12, 13, 14, 15, 16, 17, 18, 19, 20, 21, 22, 23, 24, 25, 26, 27, 28, 29, 30, 31, 32, 33, 34, 35, 36] (by decide +kernel) (by decide +kernel)
set_option maxRecDepth 20000 in
theorem gX0_going_X0_kind : GoodIn wsX0_going (wsV RX0 17 RX0 yX0_kind wsX0_kind) := goodIn_app (goodIn_of _ (by decide +kernel)) ggX0_going_X0_kind
set_option maxRecDepth 20000 in
theorem ggX0_going_X0_isWithinReach : GoodIn wsX0_going wsX0_isWithinReach := goodIn_r _ [39, 40, 41, 42, 4, 43, 44, 45, 46] (by decide +kernel) (by decide +kernel)
set_option maxRecDepth 20000 in
theorem gX0_going_X0_isWithinReach : GoodIn wsX0_going (va_wsS RX0 34 yX0_isWithinReach wsX0_isWithinReach) := goodIn_app (goodIn_of _ (by decide +kernel)) ggX0_going_X0_isWithinReach
set_option maxRecDepth 20000 in
theorem ggX0_going_X0_distancePlace : GoodIn wsX0_going wsX0_distancePlace := goodIn_r _ [49] (by decide +kernel) (by decide +kernel)
set_option maxRecDepth 20000 in
theorem gX0_going_X0_distancePlace : GoodIn wsX0_going (va_wsS RX0 24 yX0_distancePlace wsX0_distancePlace) := goodIn_app (goodIn_of _ (by decide +kernel)) ggX0_going_X0_distancePlace
set_option maxRecDepth 20000 in
theorem ggX0_going_X0_distanceWidth : GoodIn wsX0_going wsX0_distanceWidth := goodIn_r _ [46] (by decide +kernel) (by decide +kernel)
set_option maxRecDepth 20000 in
theorem gX0_going_X0_distanceWidth : GoodIn wsX0_going (va_wsS RX0 27 yX0_distanceWidth wsX0_distanceWidth) := goodIn_app (goodIn_of _ (by decide +kernel)) ggX0_going_X0_distanceWidth
set_option maxRecDepth 20000 in
theorem ggX0_going_X0_lowBits : GoodIn wsX0_going wsX0_lowBits := goodIn_r _ [18] (by decide +kernel) (by decide +kernel)
set_option maxRecDepth 20000 in
theorem gX0_going_X0_lowBits : GoodIn wsX0_going (va_wsS RX0 38 yX0_lowBits wsX0_lowBits) := goodIn_app (goodIn_of _ (by decide +kernel)) ggX0_going_X0_lowBits
theorem dX0_going_0 : decode cX0_going 0 = .ok (.aload_n 0, 1) := by decide +kernel
theorem dX0_going_1 : decode cX0_going 1 = .ok (.iload_n 1, 1) := by decide +kernel
theorem dX0_going_2 : decode cX0_going 2 = .ok (.invokevirtual 17, 3) := by decide +kernel
theorem dX0_going_5 : decode cX0_going 5 = .ok (.istore_n 3, 1) := by decide +kernel
theorem dX0_going_6 : decode cX0_going 6 = .ok (.iload_n 3, 1) := by decide +kernel
theorem dX0_going_7 : decode cX0_going 7 = .ok (.iload_n 2, 1) := by decide +kernel
theorem dX0_going_8 : decode cX0_going 8 = .ok (.i2l, 1) := by decide +kernel
theorem dX0_going_9 : decode cX0_going 9 = .ok (.invokestatic 34, 3) := by decide +kernel
theorem dX0_going_12 : decode cX0_going 12 = .ok (.ifCond .ne 5, 3) := by decide +kernel
theorem dX0_going_15 : decode cX0_going 15 = .ok (.iload_n 1, 1) := by decide +kernel
theorem dX0_going_16 : decode cX0_going 16 = .ok (.ireturn, 1) := by decide +kernel
theorem dX0_going_17 : decode cX0_going 17 = .ok (.iload_n 3, 1) := by decide +kernel
theorem dX0_going_18 : decode cX0_going 18 = .ok (.invokestatic 24, 3) := by decide +kernel
theorem dX0_going_21 : decode cX0_going 21 = .ok (.istore 4, 2) := by decide +kernel
theorem dX0_going_23 : decode cX0_going 23 = .ok (.iload_n 3, 1) := by decide +kernel
theorem dX0_going_24 : decode cX0_going 24 = .ok (.invokestatic 27, 3) := by decide +kernel
theorem dX0_going_27 : decode cX0_going 27 = .ok (.invokestatic 38, 3) := by decide +kernel
theorem dX0_going_30 : decode cX0_going 30 = .ok (.iload 4, 2) := by decide +kernel
theorem dX0_going_32 : decode cX0_going 32 = .ok (.ishl, 1) := by decide +kernel
theorem dX0_going_33 : decode cX0_going 33 = .ok (.istore 5, 2) := by decide +kernel
theorem dX0_going_35 : decode cX0_going 35 = .ok (.iload_n 1, 1) := by decide +kernel
theorem dX0_going_36 : decode cX0_going 36 = .ok (.iload 5, 2) := by decide +kernel
theorem dX0_going_38 : decode cX0_going 38 = .ok (.iconst (-1), 1) := by decide +kernel
theorem dX0_going_39 : decode cX0_going 39 = .ok (.ixor, 1) := by decide +kernel
theorem dX0_going_40 : decode cX0_going 40 = .ok (.iand, 1) := by decide +kernel
theorem dX0_going_41 : decode cX0_going 41 = .ok (.iload_n 2, 1) := by decide +kernel
theorem dX0_going_42 : decode cX0_going 42 = .ok (.iconst 2, 1) := by decide +kernel
theorem dX0_going_43 : decode cX0_going 43 = .ok (.ishr, 1) := by decide +kernel
theorem dX0_going_44 : decode cX0_going 44 = .ok (.iload 4, 2) := by decide +kernel
theorem dX0_going_46 : decode cX0_going 46 = .ok (.ishl, 1) := by decide +kernel
theorem dX0_going_47 : decode cX0_going 47 = .ok (.iload 5, 2) := by decide +kernel
theorem dX0_going_49 : decode cX0_going 49 = .ok (.iand, 1) := by decide +kernel
theorem dX0_going_50 : decode cX0_going 50 = .ok (.ior, 1) := by decide +kernel
theorem dX0_going_51 : decode cX0_going 51 = .ok (.ireturn, 1) := by decide +kernel
set_option maxRecDepth 20000 in
theorem ggX0_reaches_X0_kind : GoodIn wsX0_reaches wsX0_kind := goodIn_r _ [5, 6, 7, 4, 8, 9, 10, 11, 12, 13, 14, 15, 16, 17, 18, 19, 20, 21, 22, 23, 24, 25, 26, 27, 28, 29, 30, 31, 32, 33, 34, 35, 36] (by decide +kernel) (by decide +kernel)
set_option maxRecDepth 20000 in
theorem gX0_reaches_X0_kind : GoodIn wsX0_reaches (wsV RX0 17 RX0 yX0_kind wsX0_kind) := goodIn_app (goodIn_of _ (by decide +kernel)) ggX0_reaches_X0_kind
set_option maxRecDepth 20000 in
theorem ggX0_reaches_X0_isWithinReach : GoodIn wsX0_reaches wsX0_isWithinReach := goodIn_r _ [39, 40, 41, 42, 4, 43, 44, 45, 46] (by decide +kernel) (by decide +kernel)
set_option maxRecDepth 20000 in
theorem gX0_reaches_X0_isWithinReach : GoodIn wsX0_reaches (va_wsS RX0 34 yX0_isWithinReach wsX0_isWithinReach) := goodIn_app (goodIn_of _ (by decide +kernel)) ggX0_reaches_X0_isWithinReach
theorem dX0_reaches_0 : decode cX0_reaches 0 = .ok (.aload_n 0, 1) := by decide +kernel
theorem dX0_reaches_1 : decode cX0_reaches 1 = .ok (.iload_n 1, 1) := by decide +kernel
theorem dX0_reaches_2 : decode cX0_reaches 2 = .ok (.invokevirtual 17, 3) := by decide +kernel
theorem dX0_reaches_5 : decode cX0_reaches 5 = .ok (.lload_n 2, 1) := by decide +kernel
theorem dX0_reaches_6 : decode cX0_reaches 6 = .ok (.invokestatic 34, 3) := by decide +kernel
theorem dX0_reaches_9 : decode cX0_reaches 9 = .ok (.ireturn, 1) := by decide +kernel
set_option maxRecDepth 20000 in
theorem ggX0_turned_X0_kind : GoodIn wsX0_turned wsX0_kind := goodIn_r _ [6, 7, 8, 5, 9, 10, 11, 12, 13, 14, 15, 16, 17, 18, 19, 20, 21, 22, 23, 24, 25, 26, 27, 28, 29, 30, 31, 32, 33, 34, 35, 36, 37] (by decide +kernel) (by decide +kernel)
set_option maxRecDepth 20000 in
theorem gX0_turned_X0_kind : GoodIn wsX0_turned (wsV RX0 17 RX0 yX0_kind wsX0_kind) := goodIn_app (goodIn_of _ (by decide +kernel)) ggX0_turned_X0_kind
theorem dX0_turned_0 : decode cX0_turned 0 = .ok (.aload_n 0, 1) := by decide +kernel
theorem dX0_turned_1 : decode cX0_turned 1 = .ok (.iload_n 1, 1) := by decide +kernel
theorem dX0_turned_2 : decode cX0_turned 2 = .ok (.invokevirtual 17, 3) := by decide +kernel
theorem dX0_turned_5 : decode cX0_turned 5 = .ok (.tableswitch 36 14 16 #[27, 31, 31], 27) := by decide +kernel
theorem dX0_turned_32 : decode cX0_turned 32 = .ok (.iload_n 1, 1) := by decide +kernel
theorem dX0_turned_33 : decode cX0_turned 33 = .ok (.iconst 1, 1) := by decide +kernel
theorem dX0_turned_34 : decode cX0_turned 34 = .ok (.ixor, 1) := by decide +kernel
theorem dX0_turned_35 : decode cX0_turned 35 = .ok (.ireturn, 1) := by decide +kernel
theorem dX0_turned_36 : decode cX0_turned 36 = .ok (.iload_n 1, 1) := by decide +kernel
theorem dX0_turned_37 : decode cX0_turned 37 = .ok (.ldc 41, 2) := by decide +kernel
theorem dX0_turned_39 : decode cX0_turned 39 = .ok (.ixor, 1) := by decide +kernel
theorem dX0_turned_40 : decode cX0_turned 40 = .ok (.ireturn, 1) := by decide +kernel
theorem dX0_turned_41 : decode cX0_turned 41 = .ok (.iload_n 1, 1) := by decide +kernel
theorem dX0_turned_42 : decode cX0_turned 42 = .ok (.ireturn, 1) := by decide +kernel
set_option maxRecDepth 20000 in
theorem ggX0_page_X0_kind : GoodIn wsX0_page wsX0_kind := goodIn_r _ [7, 8, 9, 6, 10, 11, 12, 13, 14, 15, 16, 17, 18, 19, 20, 21, 22, 23, 24, 25, 26, 27, 28, 29, 30, 31, 32, 33, 34, 35, 36, 37, 38] (by decide +kernel) (by decide +kernel)
set_option maxRecDepth 20000 in
theorem gX0_page_X0_kind : GoodIn wsX0_page (wsV RX0 17 RX0 yX0_kind wsX0_kind) := goodIn_app (goodIn_of _ (by decide +kernel)) ggX0_page_X0_kind
set_option maxRecDepth 20000 in
theorem ggX0_page_X0_signedBits : GoodIn wsX0_page wsX0_signedBits := goodIn_r _ [41] (by decide +kernel) (by decide +kernel)
set_option maxRecDepth 20000 in
theorem gX0_page_X0_signedBits : GoodIn wsX0_page (va_wsS RX0 30 yX0_signedBits wsX0_signedBits) := goodIn_app (goodIn_of _ (by decide +kernel)) ggX0_page_X0_signedBits
set_option maxRecDepth 20000 in
theorem ggX0_page_X0_bits : GoodIn wsX0_page wsX0_bits := goodIn_r _ [17, 18, 19, 6, 20] (by decide +kernel) (by decide +kernel)
set_option maxRecDepth 20000 in
theorem gX0_page_X0_bits : GoodIn wsX0_page (va_wsS RX0 46 yX0_bits wsX0_bits) := goodIn_app (goodIn_of _ (by decide +kernel)) ggX0_page_X0_bits
theorem dX0_page_0 : decode cX0_page 0 = .ok (.aload_n 0, 1) := by decide +kernel
theorem dX0_page_1 : decode cX0_page 1 = .ok (.iload_n 1, 1) := by decide +kernel
theorem dX0_page_2 : decode cX0_page 2 = .ok (.invokevirtual 17, 3) := by decide +kernel
theorem dX0_page_5 : decode cX0_page 5 = .ok (.iconst 5, 1) := by decide +kernel
theorem dX0_page_6 : decode cX0_page 6 = .ok (.if_icmp .eq 7, 3) := by decide +kernel
theorem dX0_page_9 : decode cX0_page 9 = .ok (.ldc2_w 42, 3) := by decide +kernel
theorem dX0_page_12 : decode cX0_page 12 = .ok (.lreturn, 1) := by decide +kernel
theorem dX0_page_13 : decode cX0_page 13 = .ok (.iload_n 1, 1) := by decide +kernel
theorem dX0_page_14 : decode cX0_page 14 = .ok (.iconst 5, 1) := by decide +kernel
theorem dX0_page_15 : decode cX0_page 15 = .ok (.bipush 19, 2) := by decide +kernel
theorem dX0_page_17 : decode cX0_page 17 = .ok (.invokestatic 30, 3) := by decide +kernel
theorem dX0_page_20 : decode cX0_page 20 = .ok (.i2l, 1) := by decide +kernel
theorem dX0_page_21 : decode cX0_page 21 = .ok (.ldc2_w 44, 3) := by decide +kernel
theorem dX0_page_24 : decode cX0_page 24 = .ok (.lmul, 1) := by decide +kernel
theorem dX0_page_25 : decode cX0_page 25 = .ok (.iload_n 1, 1) := by decide +kernel
theorem dX0_page_26 : decode cX0_page 26 = .ok (.bipush 29, 2) := by decide +kernel
theorem dX0_page_28 : decode cX0_page 28 = .ok (.iconst 2, 1) := by decide +kernel
theorem dX0_page_29 : decode cX0_page 29 = .ok (.invokestatic 46, 3) := by decide +kernel
theorem dX0_page_32 : decode cX0_page 32 = .ok (.i2l, 1) := by decide +kernel
theorem dX0_page_33 : decode cX0_page 33 = .ok (.ladd, 1) := by decide +kernel
theorem dX0_page_34 : decode cX0_page 34 = .ok (.lstore 4, 2) := by decide +kernel
theorem dX0_page_36 : decode cX0_page 36 = .ok (.lload_n 2, 1) := by decide +kernel
theorem dX0_page_37 : decode cX0_page 37 = .ok (.bipush 12, 2) := by decide +kernel
theorem dX0_page_39 : decode cX0_page 39 = .ok (.lshr, 1) := by decide +kernel
theorem dX0_page_40 : decode cX0_page 40 = .ok (.lload 4, 2) := by decide +kernel
theorem dX0_page_42 : decode cX0_page 42 = .ok (.ladd, 1) := by decide +kernel
theorem dX0_page_43 : decode cX0_page 43 = .ok (.bipush 12, 2) := by decide +kernel
theorem dX0_page_45 : decode cX0_page 45 = .ok (.lshl, 1) := by decide +kernel
theorem dX0_page_46 : decode cX0_page 46 = .ok (.lreturn, 1) := by decide +kernel
set_option maxRecDepth 20000 in
theorem ggX0_paging_X0_kind : GoodIn wsX0_paging wsX0_kind := goodIn_r _ [8, 9, 10, 7, 11, 12, 13, 14, 15, 16, 17, 18, 19, 20, 21, 22, 23, 24, 25, 26, 27, 28, 29, 30, 31, 32, 33, 34, 35, 36, 37, 38, 39] (by decide +kernel) (by decide +kernel)
set_option maxRecDepth 20000 in
theorem gX0_paging_X0_kind : GoodIn wsX0_paging (wsV RX0 17 RX0 yX0_kind wsX0_kind) := goodIn_app (goodIn_of _ (by decide +kernel)) ggX0_paging_X0_kind
set_option maxRecDepth 20000 in
theorem ggX0_paging_X0_bits : GoodIn wsX0_paging wsX0_bits := goodIn_r _ [18, 19, 20, 7, 21] (by decide +kernel) (by decide +kernel)
set_option maxRecDepth 20000 in
theorem gX0_paging_X0_bits : GoodIn wsX0_paging (va_wsS RX0 46 yX0_bits wsX0_bits) := goodIn_app (goodIn_of _ (by decide +kernel)) ggX0_paging_X0_bits
theorem dX0_paging_0 : decode cX0_paging 0 = .ok (.aload_n 0, 1) := by decide +kernel
theorem dX0_paging_1 : decode cX0_paging 1 = .ok (.iload_n 1, 1) := by decide +kernel
theorem dX0_paging_2 : decode cX0_paging 2 = .ok (.invokevirtual 17, 3) := by decide +kernel
theorem dX0_paging_5 : decode cX0_paging 5 = .ok (.iconst 5, 1) := by decide +kernel
theorem dX0_paging_6 : decode cX0_paging 6 = .ok (.if_icmp .eq 5, 3) := by decide +kernel
theorem dX0_paging_9 : decode cX0_paging 9 = .ok (.iload_n 1, 1) := by decide +kernel
theorem dX0_paging_10 : decode cX0_paging 10 = .ok (.ireturn, 1) := by decide +kernel
theorem dX0_paging_11 : decode cX0_paging 11 = .ok (.lload 4, 2) := by decide +kernel
theorem dX0_paging_13 : decode cX0_paging 13 = .ok (.bipush 12, 2) := by decide +kernel
theorem dX0_paging_15 : decode cX0_paging 15 = .ok (.lshr, 1) := by decide +kernel
theorem dX0_paging_16 : decode cX0_paging 16 = .ok (.lload_n 2, 1) := by decide +kernel
theorem dX0_paging_17 : decode cX0_paging 17 = .ok (.bipush 12, 2) := by decide +kernel
theorem dX0_paging_19 : decode cX0_paging 19 = .ok (.lshr, 1) := by decide +kernel
theorem dX0_paging_20 : decode cX0_paging 20 = .ok (.lsub, 1) := by decide +kernel
theorem dX0_paging_21 : decode cX0_paging 21 = .ok (.lstore 6, 2) := by decide +kernel
theorem dX0_paging_23 : decode cX0_paging 23 = .ok (.lload 6, 2) := by decide +kernel
theorem dX0_paging_25 : decode cX0_paging 25 = .ok (.ldc2_w 49, 3) := by decide +kernel
theorem dX0_paging_28 : decode cX0_paging 28 = .ok (.lcmp, 1) := by decide +kernel
theorem dX0_paging_29 : decode cX0_paging 29 = .ok (.ifCond .ge 12, 3) := by decide +kernel
theorem dX0_paging_32 : decode cX0_paging 32 = .ok (.lload 6, 2) := by decide +kernel
theorem dX0_paging_34 : decode cX0_paging 34 = .ok (.ldc2_w 51, 3) := by decide +kernel
theorem dX0_paging_37 : decode cX0_paging 37 = .ok (.lcmp, 1) := by decide +kernel
theorem dX0_paging_38 : decode cX0_paging 38 = .ok (.ifCond .ge 5, 3) := by decide +kernel
theorem dX0_paging_41 : decode cX0_paging 41 = .ok (.iload_n 1, 1) := by decide +kernel
theorem dX0_paging_42 : decode cX0_paging 42 = .ok (.ireturn, 1) := by decide +kernel
theorem dX0_paging_43 : decode cX0_paging 43 = .ok (.lload 6, 2) := by decide +kernel
theorem dX0_paging_45 : decode cX0_paging 45 = .ok (.l2i, 1) := by decide +kernel
theorem dX0_paging_46 : decode cX0_paging 46 = .ok (.istore 8, 2) := by decide +kernel
theorem dX0_paging_48 : decode cX0_paging 48 = .ok (.iload 8, 2) := by decide +kernel
theorem dX0_paging_50 : decode cX0_paging 50 = .ok (.iconst 2, 1) := by decide +kernel
theorem dX0_paging_51 : decode cX0_paging 51 = .ok (.bipush 19, 2) := by decide +kernel
theorem dX0_paging_53 : decode cX0_paging 53 = .ok (.invokestatic 46, 3) := by decide +kernel
theorem dX0_paging_56 : decode cX0_paging 56 = .ok (.iconst 5, 1) := by decide +kernel
theorem dX0_paging_57 : decode cX0_paging 57 = .ok (.ishl, 1) := by decide +kernel
theorem dX0_paging_58 : decode cX0_paging 58 = .ok (.istore 9, 2) := by decide +kernel
theorem dX0_paging_60 : decode cX0_paging 60 = .ok (.iload 8, 2) := by decide +kernel
theorem dX0_paging_62 : decode cX0_paging 62 = .ok (.iconst 0, 1) := by decide +kernel
theorem dX0_paging_63 : decode cX0_paging 63 = .ok (.iconst 2, 1) := by decide +kernel
theorem dX0_paging_64 : decode cX0_paging 64 = .ok (.invokestatic 46, 3) := by decide +kernel
theorem dX0_paging_67 : decode cX0_paging 67 = .ok (.bipush 29, 2) := by decide +kernel
theorem dX0_paging_69 : decode cX0_paging 69 = .ok (.ishl, 1) := by decide +kernel
theorem dX0_paging_70 : decode cX0_paging 70 = .ok (.istore 10, 2) := by decide +kernel
theorem dX0_paging_72 : decode cX0_paging 72 = .ok (.iload_n 1, 1) := by decide +kernel
theorem dX0_paging_73 : decode cX0_paging 73 = .ok (.ldc 53, 2) := by decide +kernel
theorem dX0_paging_75 : decode cX0_paging 75 = .ok (.iand, 1) := by decide +kernel
theorem dX0_paging_76 : decode cX0_paging 76 = .ok (.iload 9, 2) := by decide +kernel
theorem dX0_paging_78 : decode cX0_paging 78 = .ok (.ior, 1) := by decide +kernel
theorem dX0_paging_79 : decode cX0_paging 79 = .ok (.iload 10, 2) := by decide +kernel
theorem dX0_paging_81 : decode cX0_paging 81 = .ok (.ior, 1) := by decide +kernel
theorem dX0_paging_82 : decode cX0_paging 82 = .ok (.ireturn, 1) := by decide +kernel
set_option maxRecDepth 20000 in
theorem ggX0_goesOn_X0_kind : GoodIn wsX0_goesOn wsX0_kind := goodIn_r _ [5, 6, 7, 4, 8, 9, 10, 11, 12, 13, 14, 15, 16, 17, 18, 19, 20, 21, 22, 23, 24, 25, 26, 27, 28, 29, 30, 31, 32, 33, 34, 35, 36] (by decide +kernel) (by decide +kernel)
set_option maxRecDepth 20000 in
theorem gX0_goesOn_X0_kind : GoodIn wsX0_goesOn (wsV RX0 17 RX0 yX0_kind wsX0_kind) := goodIn_app (goodIn_of _ (by decide +kernel)) ggX0_goesOn_X0_kind
theorem dX0_goesOn_0 : decode cX0_goesOn 0 = .ok (.aload_n 0, 1) := by decide +kernel
theorem dX0_goesOn_1 : decode cX0_goesOn 1 = .ok (.iload_n 1, 1) := by decide +kernel
theorem dX0_goesOn_2 : decode cX0_goesOn 2 = .ok (.invokevirtual 17, 3) := by decide +kernel
theorem dX0_goesOn_5 : decode cX0_goesOn 5 = .ok (.istore_n 2, 1) := by decide +kernel
theorem dX0_goesOn_6 : decode cX0_goesOn 6 = .ok (.iload_n 2, 1) := by decide +kernel
theorem dX0_goesOn_7 : decode cX0_goesOn 7 = .ok (.ifCond .eq 25, 3) := by decide +kernel
theorem dX0_goesOn_10 : decode cX0_goesOn 10 = .ok (.iload_n 2, 1) := by decide +kernel
theorem dX0_goesOn_11 : decode cX0_goesOn 11 = .ok (.bipush 12, 2) := by decide +kernel
theorem dX0_goesOn_13 : decode cX0_goesOn 13 = .ok (.if_icmp .eq 19, 3) := by decide +kernel
theorem dX0_goesOn_16 : decode cX0_goesOn 16 = .ok (.iload_n 2, 1) := by decide +kernel
theorem dX0_goesOn_17 : decode cX0_goesOn 17 = .ok (.bipush 17, 2) := by decide +kernel
theorem dX0_goesOn_19 : decode cX0_goesOn 19 = .ok (.if_icmp .eq 13, 3) := by decide +kernel
theorem dX0_goesOn_22 : decode cX0_goesOn 22 = .ok (.iload_n 2, 1) := by decide +kernel
theorem dX0_goesOn_23 : decode cX0_goesOn 23 = .ok (.bipush 19, 2) := by decide +kernel
theorem dX0_goesOn_25 : decode cX0_goesOn 25 = .ok (.if_icmp .eq 7, 3) := by decide +kernel
theorem dX0_goesOn_28 : decode cX0_goesOn 28 = .ok (.iconst 1, 1) := by decide +kernel
theorem dX0_goesOn_29 : decode cX0_goesOn 29 = .ok (.goto 4, 3) := by decide +kernel
theorem dX0_goesOn_32 : decode cX0_goesOn 32 = .ok (.iconst 0, 1) := by decide +kernel
theorem dX0_goesOn_33 : decode cX0_goesOn 33 = .ok (.ireturn, 1) := by decide +kernel
set_option maxRecDepth 20000 in
theorem ggX0_register_X0_kind : GoodIn wsX0_register wsX0_kind := goodIn_r _ [5, 6, 7, 4, 8, 9, 10, 11, 12, 13, 14, 15, 16, 17, 18, 19, 20, 21, 22, 23, 24, 25, 26, 27, 28, 29, 30, 31, 32, 33, 34, 35, 36] (by decide +kernel) (by decide +kernel)
set_option maxRecDepth 20000 in
theorem gX0_register_X0_kind : GoodIn wsX0_register (wsV RX0 17 RX0 yX0_kind wsX0_kind) := goodIn_app (goodIn_of _ (by decide +kernel)) ggX0_register_X0_kind
set_option maxRecDepth 20000 in
theorem ggX0_register_X0_hasD : GoodIn wsX0_register wsX0_hasD := goodIn_r _ [39] (by decide +kernel) (by decide +kernel)
set_option maxRecDepth 20000 in
theorem gX0_register_X0_hasD : GoodIn wsX0_register (va_wsS RX0 54 yX0_hasD wsX0_hasD) := goodIn_app (goodIn_of _ (by decide +kernel)) ggX0_register_X0_hasD
set_option maxRecDepth 20000 in
theorem ggX0_register_X0_bits : GoodIn wsX0_register wsX0_bits := goodIn_r _ [15, 16, 17, 4, 18] (by decide +kernel) (by decide +kernel)
set_option maxRecDepth 20000 in
theorem gX0_register_X0_bits : GoodIn wsX0_register (va_wsS RX0 46 yX0_bits wsX0_bits) := goodIn_app (goodIn_of _ (by decide +kernel)) ggX0_register_X0_bits
set_option maxRecDepth 20000 in
theorem ggX0_register_X0_hasN : GoodIn wsX0_register wsX0_hasN := goodIn_r _ [42] (by decide +kernel) (by decide +kernel)
set_option maxRecDepth 20000 in
theorem gX0_register_X0_hasN : GoodIn wsX0_register (va_wsS RX0 57 yX0_hasN wsX0_hasN) := goodIn_app (goodIn_of _ (by decide +kernel)) ggX0_register_X0_hasN
set_option maxRecDepth 20000 in
theorem ggX0_register_X0_hasM : GoodIn wsX0_register wsX0_hasM := goodIn_r _ [45] (by decide +kernel) (by decide +kernel)
set_option maxRecDepth 20000 in
theorem gX0_register_X0_hasM : GoodIn wsX0_register (va_wsS RX0 60 yX0_hasM wsX0_hasM) := goodIn_app (goodIn_of _ (by decide +kernel)) ggX0_register_X0_hasM
set_option maxRecDepth 20000 in
theorem ggX0_register_X0_hasA : GoodIn wsX0_register wsX0_hasA := goodIn_r _ [48] (by decide +kernel) (by decide +kernel)
set_option maxRecDepth 20000 in
theorem gX0_register_X0_hasA : GoodIn wsX0_register (va_wsS RX0 63 yX0_hasA wsX0_hasA) := goodIn_app (goodIn_of _ (by decide +kernel)) ggX0_register_X0_hasA
theorem dX0_register_0 : decode cX0_register 0 = .ok (.aload_n 0, 1) := by decide +kernel
theorem dX0_register_1 : decode cX0_register 1 = .ok (.iload_n 1, 1) := by decide +kernel
theorem dX0_register_2 : decode cX0_register 2 = .ok (.invokevirtual 17, 3) := by decide +kernel
theorem dX0_register_5 : decode cX0_register 5 = .ok (.istore_n 3, 1) := by decide +kernel
theorem dX0_register_6 : decode cX0_register 6 = .ok (.iload_n 2, 1) := by decide +kernel
theorem dX0_register_7 : decode cX0_register 7 = .ok (.tableswitch 103 0 3 #[29, 47, 65, 84], 29) := by decide +kernel
theorem dX0_register_36 : decode cX0_register 36 = .ok (.iload_n 3, 1) := by decide +kernel
theorem dX0_register_37 : decode cX0_register 37 = .ok (.invokestatic 54, 3) := by decide +kernel
theorem dX0_register_40 : decode cX0_register 40 = .ok (.ifCond .eq 12, 3) := by decide +kernel
theorem dX0_register_43 : decode cX0_register 43 = .ok (.iload_n 1, 1) := by decide +kernel
theorem dX0_register_44 : decode cX0_register 44 = .ok (.iconst 0, 1) := by decide +kernel
theorem dX0_register_45 : decode cX0_register 45 = .ok (.iconst 5, 1) := by decide +kernel
theorem dX0_register_46 : decode cX0_register 46 = .ok (.invokestatic 46, 3) := by decide +kernel
theorem dX0_register_49 : decode cX0_register 49 = .ok (.goto 4, 3) := by decide +kernel
theorem dX0_register_52 : decode cX0_register 52 = .ok (.iconst (-1), 1) := by decide +kernel
theorem dX0_register_53 : decode cX0_register 53 = .ok (.ireturn, 1) := by decide +kernel
theorem dX0_register_54 : decode cX0_register 54 = .ok (.iload_n 3, 1) := by decide +kernel
theorem dX0_register_55 : decode cX0_register 55 = .ok (.invokestatic 57, 3) := by decide +kernel
theorem dX0_register_58 : decode cX0_register 58 = .ok (.ifCond .eq 12, 3) := by decide +kernel
theorem dX0_register_61 : decode cX0_register 61 = .ok (.iload_n 1, 1) := by decide +kernel
theorem dX0_register_62 : decode cX0_register 62 = .ok (.iconst 5, 1) := by decide +kernel
theorem dX0_register_63 : decode cX0_register 63 = .ok (.iconst 5, 1) := by decide +kernel
theorem dX0_register_64 : decode cX0_register 64 = .ok (.invokestatic 46, 3) := by decide +kernel
theorem dX0_register_67 : decode cX0_register 67 = .ok (.goto 4, 3) := by decide +kernel
theorem dX0_register_70 : decode cX0_register 70 = .ok (.iconst (-1), 1) := by decide +kernel
theorem dX0_register_71 : decode cX0_register 71 = .ok (.ireturn, 1) := by decide +kernel
theorem dX0_register_72 : decode cX0_register 72 = .ok (.iload_n 3, 1) := by decide +kernel
theorem dX0_register_73 : decode cX0_register 73 = .ok (.invokestatic 60, 3) := by decide +kernel
theorem dX0_register_76 : decode cX0_register 76 = .ok (.ifCond .eq 13, 3) := by decide +kernel
theorem dX0_register_79 : decode cX0_register 79 = .ok (.iload_n 1, 1) := by decide +kernel
theorem dX0_register_80 : decode cX0_register 80 = .ok (.bipush 16, 2) := by decide +kernel
theorem dX0_register_82 : decode cX0_register 82 = .ok (.iconst 5, 1) := by decide +kernel
theorem dX0_register_83 : decode cX0_register 83 = .ok (.invokestatic 46, 3) := by decide +kernel
theorem dX0_register_86 : decode cX0_register 86 = .ok (.goto 4, 3) := by decide +kernel
theorem dX0_register_89 : decode cX0_register 89 = .ok (.iconst (-1), 1) := by decide +kernel
theorem dX0_register_90 : decode cX0_register 90 = .ok (.ireturn, 1) := by decide +kernel
theorem dX0_register_91 : decode cX0_register 91 = .ok (.iload_n 3, 1) := by decide +kernel
theorem dX0_register_92 : decode cX0_register 92 = .ok (.invokestatic 63, 3) := by decide +kernel
theorem dX0_register_95 : decode cX0_register 95 = .ok (.ifCond .eq 13, 3) := by decide +kernel
theorem dX0_register_98 : decode cX0_register 98 = .ok (.iload_n 1, 1) := by decide +kernel
theorem dX0_register_99 : decode cX0_register 99 = .ok (.bipush 10, 2) := by decide +kernel
theorem dX0_register_101 : decode cX0_register 101 = .ok (.iconst 5, 1) := by decide +kernel
theorem dX0_register_102 : decode cX0_register 102 = .ok (.invokestatic 46, 3) := by decide +kernel
theorem dX0_register_105 : decode cX0_register 105 = .ok (.goto 4, 3) := by decide +kernel
theorem dX0_register_108 : decode cX0_register 108 = .ok (.iconst (-1), 1) := by decide +kernel
theorem dX0_register_109 : decode cX0_register 109 = .ok (.ireturn, 1) := by decide +kernel
theorem dX0_register_110 : decode cX0_register 110 = .ok (.iconst (-1), 1) := by decide +kernel
theorem dX0_register_111 : decode cX0_register 111 = .ok (.ireturn, 1) := by decide +kernel
theorem dX0_formOf_0 : decode cX0_formOf 0 = .ok (.iconst 0, 1) := by decide +kernel
theorem dX0_formOf_1 : decode cX0_formOf 1 = .ok (.istore_n 1, 1) := by decide +kernel
theorem dX0_formOf_2 : decode cX0_formOf 2 = .ok (.iload_n 1, 1) := by decide +kernel
theorem dX0_formOf_3 : decode cX0_formOf 3 = .ok (.iconst 1, 1) := by decide +kernel
theorem dX0_formOf_4 : decode cX0_formOf 4 = .ok (.iadd, 1) := by decide +kernel
theorem dX0_formOf_5 : decode cX0_formOf 5 = .ok (.getstatic 66, 3) := by decide +kernel
theorem dX0_formOf_8 : decode cX0_formOf 8 = .ok (.arraylength, 1) := by decide +kernel
theorem dX0_formOf_9 : decode cX0_formOf 9 = .ok (.if_icmp .ge 32, 3) := by decide +kernel
theorem dX0_formOf_12 : decode cX0_formOf 12 = .ok (.iload_n 0, 1) := by decide +kernel
theorem dX0_formOf_13 : decode cX0_formOf 13 = .ok (.getstatic 66, 3) := by decide +kernel
theorem dX0_formOf_16 : decode cX0_formOf 16 = .ok (.iload_n 1, 1) := by decide +kernel
theorem dX0_formOf_17 : decode cX0_formOf 17 = .ok (.iaload, 1) := by decide +kernel
theorem dX0_formOf_18 : decode cX0_formOf 18 = .ok (.iand, 1) := by decide +kernel
theorem dX0_formOf_19 : decode cX0_formOf 19 = .ok (.getstatic 66, 3) := by decide +kernel
theorem dX0_formOf_22 : decode cX0_formOf 22 = .ok (.iload_n 1, 1) := by decide +kernel
theorem dX0_formOf_23 : decode cX0_formOf 23 = .ok (.iconst 1, 1) := by decide +kernel
theorem dX0_formOf_24 : decode cX0_formOf 24 = .ok (.iadd, 1) := by decide +kernel
theorem dX0_formOf_25 : decode cX0_formOf 25 = .ok (.iaload, 1) := by decide +kernel
theorem dX0_formOf_26 : decode cX0_formOf 26 = .ok (.if_icmp .ne 9, 3) := by decide +kernel
theorem dX0_formOf_29 : decode cX0_formOf 29 = .ok (.iload_n 1, 1) := by decide +kernel
theorem dX0_formOf_30 : decode cX0_formOf 30 = .ok (.iconst 2, 1) := by decide +kernel
theorem dX0_formOf_31 : decode cX0_formOf 31 = .ok (.idiv, 1) := by decide +kernel
theorem dX0_formOf_32 : decode cX0_formOf 32 = .ok (.iconst 1, 1) := by decide +kernel
theorem dX0_formOf_33 : decode cX0_formOf 33 = .ok (.iadd, 1) := by decide +kernel
theorem dX0_formOf_34 : decode cX0_formOf 34 = .ok (.ireturn, 1) := by decide +kernel
theorem dX0_formOf_35 : decode cX0_formOf 35 = .ok (.iinc 1 2, 3) := by decide +kernel
theorem dX0_formOf_38 : decode cX0_formOf 38 = .ok (.goto (-36), 3) := by decide +kernel
theorem dX0_formOf_41 : decode cX0_formOf 41 = .ok (.iconst 0, 1) := by decide +kernel
theorem dX0_formOf_42 : decode cX0_formOf 42 = .ok (.ireturn, 1) := by decide +kernel
set_option maxRecDepth 20000 in
theorem ggX0_isAllowed_X0_bits : GoodIn wsX0_isAllowed wsX0_bits := goodIn_r _ [4, 5, 6, 3, 7] (by decide +kernel) (by decide +kernel)
set_option maxRecDepth 20000 in
theorem gX0_isAllowed_X0_bits : GoodIn wsX0_isAllowed (va_wsS RX0 46 yX0_bits wsX0_bits) := goodIn_app (goodIn_of _ (by decide +kernel)) ggX0_isAllowed_X0_bits
set_option maxRecDepth 20000 in
theorem ggX0_isAllowed_X0_isMovedWithin : GoodIn wsX0_isAllowed wsX0_isMovedWithin := goodIn_r _ [10, 11, 12, 3, 13, 1, 2, 4, 5, 6, 7] (by decide +kernel) (by decide +kernel)
set_option maxRecDepth 20000 in
theorem gX0_isAllowed_X0_isMovedWithin : GoodIn wsX0_isAllowed (va_wsS RX0 70 yX0_isMovedWithin wsX0_isMovedWithin) := goodIn_app (goodIn_of _ (by decide +kernel)) ggX0_isAllowed_X0_isMovedWithin
set_option maxRecDepth 20000 in
theorem ggX0_isAllowed_X0_isLong : GoodIn wsX0_isAllowed wsX0_isLong := goodIn_r _ [13] (by decide +kernel) (by decide +kernel)
set_option maxRecDepth 20000 in
theorem gX0_isAllowed_X0_isLong : GoodIn wsX0_isAllowed (va_wsS RX0 73 yX0_isLong wsX0_isLong) := goodIn_app (goodIn_of _ (by decide +kernel)) ggX0_isAllowed_X0_isLong
set_option maxRecDepth 20000 in
theorem ggX0_isAllowed_X0_isTwo : GoodIn wsX0_isAllowed wsX0_isTwo := goodIn_r _ [16] (by decide +kernel) (by decide +kernel)
set_option maxRecDepth 20000 in
theorem gX0_isAllowed_X0_isTwo : GoodIn wsX0_isAllowed (va_wsS RX0 76 yX0_isTwo wsX0_isTwo) := goodIn_app (goodIn_of _ (by decide +kernel)) ggX0_isAllowed_X0_isTwo
set_option maxRecDepth 20000 in
theorem ggX0_isAllowed_X0_isCondition : GoodIn wsX0_isAllowed wsX0_isCondition := goodIn_r _ [19] (by decide +kernel) (by decide +kernel)
set_option maxRecDepth 20000 in
theorem gX0_isAllowed_X0_isCondition : GoodIn wsX0_isAllowed (va_wsS RX0 79 yX0_isCondition wsX0_isCondition) := goodIn_app (goodIn_of _ (by decide +kernel)) ggX0_isAllowed_X0_isCondition
set_option maxRecDepth 20000 in
theorem ggX0_isAllowed_X0_isLoad : GoodIn wsX0_isAllowed wsX0_isLoad := goodIn_r _ [22] (by decide +kernel) (by decide +kernel)
set_option maxRecDepth 20000 in
theorem gX0_isAllowed_X0_isLoad : GoodIn wsX0_isAllowed (va_wsS RX0 82 yX0_isLoad wsX0_isLoad) := goodIn_app (goodIn_of _ (by decide +kernel)) ggX0_isAllowed_X0_isLoad
set_option maxRecDepth 20000 in
theorem ggX0_isAllowed_X0_isPair : GoodIn wsX0_isAllowed wsX0_isPair := goodIn_r _ [25, 1, 2, 3, 4, 5, 6, 7] (by decide +kernel) (by decide +kernel)
set_option maxRecDepth 20000 in
theorem gX0_isAllowed_X0_isPair : GoodIn wsX0_isAllowed (va_wsS RX0 85 yX0_isPair wsX0_isPair) := goodIn_app (goodIn_of _ (by decide +kernel)) ggX0_isAllowed_X0_isPair
theorem dX0_isAllowed_0 : decode cX0_isAllowed 0 = .ok (.iload_n 0, 1) := by decide +kernel
theorem dX0_isAllowed_1 : decode cX0_isAllowed 1 = .ok (.tableswitch 187 2 14 #[67, 91, 96, 187, 187, 131, 143, 154, 154, 172, 187, 187, 177], 67) := by decide +kernel
theorem dX0_isAllowed_68 : decode cX0_isAllowed 68 = .ok (.iload_n 1, 1) := by decide +kernel
theorem dX0_isAllowed_69 : decode cX0_isAllowed 69 = .ok (.bipush 22, 2) := by decide +kernel
theorem dX0_isAllowed_71 : decode cX0_isAllowed 71 = .ok (.iconst 2, 1) := by decide +kernel
theorem dX0_isAllowed_72 : decode cX0_isAllowed 72 = .ok (.invokestatic 46, 3) := by decide +kernel
theorem dX0_isAllowed_75 : decode cX0_isAllowed 75 = .ok (.iconst 3, 1) := by decide +kernel
theorem dX0_isAllowed_76 : decode cX0_isAllowed 76 = .ok (.if_icmp .eq 14, 3) := by decide +kernel
theorem dX0_isAllowed_79 : decode cX0_isAllowed 79 = .ok (.iload_n 1, 1) := by decide +kernel
theorem dX0_isAllowed_80 : decode cX0_isAllowed 80 = .ok (.invokestatic 70, 3) := by decide +kernel
theorem dX0_isAllowed_83 : decode cX0_isAllowed 83 = .ok (.ifCond .eq 7, 3) := by decide +kernel
theorem dX0_isAllowed_86 : decode cX0_isAllowed 86 = .ok (.iconst 1, 1) := by decide +kernel
theorem dX0_isAllowed_87 : decode cX0_isAllowed 87 = .ok (.goto 4, 3) := by decide +kernel
theorem dX0_isAllowed_90 : decode cX0_isAllowed 90 = .ok (.iconst 0, 1) := by decide +kernel
theorem dX0_isAllowed_91 : decode cX0_isAllowed 91 = .ok (.ireturn, 1) := by decide +kernel
theorem dX0_isAllowed_92 : decode cX0_isAllowed 92 = .ok (.iload_n 1, 1) := by decide +kernel
theorem dX0_isAllowed_93 : decode cX0_isAllowed 93 = .ok (.invokestatic 70, 3) := by decide +kernel
theorem dX0_isAllowed_96 : decode cX0_isAllowed 96 = .ok (.ireturn, 1) := by decide +kernel
theorem dX0_isAllowed_97 : decode cX0_isAllowed 97 = .ok (.iload_n 1, 1) := by decide +kernel
theorem dX0_isAllowed_98 : decode cX0_isAllowed 98 = .ok (.bipush 29, 2) := by decide +kernel
theorem dX0_isAllowed_100 : decode cX0_isAllowed 100 = .ok (.iconst 2, 1) := by decide +kernel
theorem dX0_isAllowed_101 : decode cX0_isAllowed 101 = .ok (.invokestatic 46, 3) := by decide +kernel
theorem dX0_isAllowed_104 : decode cX0_isAllowed 104 = .ok (.iconst 1, 1) := by decide +kernel
theorem dX0_isAllowed_105 : decode cX0_isAllowed 105 = .ok (.if_icmp .eq 25, 3) := by decide +kernel
theorem dX0_isAllowed_108 : decode cX0_isAllowed 108 = .ok (.iload_n 1, 1) := by decide +kernel
theorem dX0_isAllowed_109 : decode cX0_isAllowed 109 = .ok (.invokestatic 73, 3) := by decide +kernel
theorem dX0_isAllowed_112 : decode cX0_isAllowed 112 = .ok (.ifCond .ne 14, 3) := by decide +kernel
theorem dX0_isAllowed_115 : decode cX0_isAllowed 115 = .ok (.iload_n 1, 1) := by decide +kernel
theorem dX0_isAllowed_116 : decode cX0_isAllowed 116 = .ok (.bipush 21, 2) := by decide +kernel
theorem dX0_isAllowed_118 : decode cX0_isAllowed 118 = .ok (.iconst 2, 1) := by decide +kernel
theorem dX0_isAllowed_119 : decode cX0_isAllowed 119 = .ok (.invokestatic 46, 3) := by decide +kernel
theorem dX0_isAllowed_122 : decode cX0_isAllowed 122 = .ok (.iconst 2, 1) := by decide +kernel
theorem dX0_isAllowed_123 : decode cX0_isAllowed 123 = .ok (.if_icmp .ge 7, 3) := by decide +kernel
theorem dX0_isAllowed_126 : decode cX0_isAllowed 126 = .ok (.iconst 1, 1) := by decide +kernel
theorem dX0_isAllowed_127 : decode cX0_isAllowed 127 = .ok (.goto 4, 3) := by decide +kernel
theorem dX0_isAllowed_130 : decode cX0_isAllowed 130 = .ok (.iconst 0, 1) := by decide +kernel
theorem dX0_isAllowed_131 : decode cX0_isAllowed 131 = .ok (.ireturn, 1) := by decide +kernel
theorem dX0_isAllowed_132 : decode cX0_isAllowed 132 = .ok (.iload_n 1, 1) := by decide +kernel
theorem dX0_isAllowed_133 : decode cX0_isAllowed 133 = .ok (.bipush 10, 2) := by decide +kernel
theorem dX0_isAllowed_135 : decode cX0_isAllowed 135 = .ok (.bipush 6, 2) := by decide +kernel
theorem dX0_isAllowed_137 : decode cX0_isAllowed 137 = .ok (.invokestatic 46, 3) := by decide +kernel
theorem dX0_isAllowed_140 : decode cX0_isAllowed 140 = .ok (.invokestatic 76, 3) := by decide +kernel
theorem dX0_isAllowed_143 : decode cX0_isAllowed 143 = .ok (.ireturn, 1) := by decide +kernel
theorem dX0_isAllowed_144 : decode cX0_isAllowed 144 = .ok (.iload_n 1, 1) := by decide +kernel
theorem dX0_isAllowed_145 : decode cX0_isAllowed 145 = .ok (.bipush 12, 2) := by decide +kernel
theorem dX0_isAllowed_147 : decode cX0_isAllowed 147 = .ok (.iconst 4, 1) := by decide +kernel
theorem dX0_isAllowed_148 : decode cX0_isAllowed 148 = .ok (.invokestatic 46, 3) := by decide +kernel
theorem dX0_isAllowed_151 : decode cX0_isAllowed 151 = .ok (.invokestatic 79, 3) := by decide +kernel
theorem dX0_isAllowed_154 : decode cX0_isAllowed 154 = .ok (.ireturn, 1) := by decide +kernel
theorem dX0_isAllowed_155 : decode cX0_isAllowed 155 = .ok (.iload_n 1, 1) := by decide +kernel
theorem dX0_isAllowed_156 : decode cX0_isAllowed 156 = .ok (.bipush 30, 2) := by decide +kernel
theorem dX0_isAllowed_158 : decode cX0_isAllowed 158 = .ok (.iconst 2, 1) := by decide +kernel
theorem dX0_isAllowed_159 : decode cX0_isAllowed 159 = .ok (.invokestatic 46, 3) := by decide +kernel
theorem dX0_isAllowed_162 : decode cX0_isAllowed 162 = .ok (.iload_n 1, 1) := by decide +kernel
theorem dX0_isAllowed_163 : decode cX0_isAllowed 163 = .ok (.bipush 22, 2) := by decide +kernel
theorem dX0_isAllowed_165 : decode cX0_isAllowed 165 = .ok (.iconst 2, 1) := by decide +kernel
theorem dX0_isAllowed_166 : decode cX0_isAllowed 166 = .ok (.invokestatic 46, 3) := by decide +kernel
theorem dX0_isAllowed_169 : decode cX0_isAllowed 169 = .ok (.invokestatic 82, 3) := by decide +kernel
theorem dX0_isAllowed_172 : decode cX0_isAllowed 172 = .ok (.ireturn, 1) := by decide +kernel
theorem dX0_isAllowed_173 : decode cX0_isAllowed 173 = .ok (.iload_n 1, 1) := by decide +kernel
theorem dX0_isAllowed_174 : decode cX0_isAllowed 174 = .ok (.invokestatic 85, 3) := by decide +kernel
theorem dX0_isAllowed_177 : decode cX0_isAllowed 177 = .ok (.ireturn, 1) := by decide +kernel
theorem dX0_isAllowed_178 : decode cX0_isAllowed 178 = .ok (.iload_n 1, 1) := by decide +kernel
theorem dX0_isAllowed_179 : decode cX0_isAllowed 179 = .ok (.iconst 0, 1) := by decide +kernel
theorem dX0_isAllowed_180 : decode cX0_isAllowed 180 = .ok (.iconst 4, 1) := by decide +kernel
theorem dX0_isAllowed_181 : decode cX0_isAllowed 181 = .ok (.invokestatic 46, 3) := by decide +kernel
theorem dX0_isAllowed_184 : decode cX0_isAllowed 184 = .ok (.invokestatic 79, 3) := by decide +kernel
theorem dX0_isAllowed_187 : decode cX0_isAllowed 187 = .ok (.ireturn, 1) := by decide +kernel
theorem dX0_isAllowed_188 : decode cX0_isAllowed 188 = .ok (.iconst 1, 1) := by decide +kernel
theorem dX0_isAllowed_189 : decode cX0_isAllowed 189 = .ok (.ireturn, 1) := by decide +kernel
set_option maxRecDepth 20000 in
theorem ggX0_isMovedWithin_X0_isLong : GoodIn wsX0_isMovedWithin wsX0_isLong := goodIn_r _ [4] (by decide +kernel) (by decide +kernel)
set_option maxRecDepth 20000 in
theorem gX0_isMovedWithin_X0_isLong : GoodIn wsX0_isMovedWithin (va_wsS RX0 73 yX0_isLong wsX0_isLong) := goodIn_app (goodIn_of _ (by decide +kernel)) ggX0_isMovedWithin_X0_isLong
set_option maxRecDepth 20000 in
theorem ggX0_isMovedWithin_X0_bits : GoodIn wsX0_isMovedWithin wsX0_bits := goodIn_r _ [7, 8, 9, 3, 10] (by decide +kernel) (by decide +kernel)
set_option maxRecDepth 20000 in
theorem gX0_isMovedWithin_X0_bits : GoodIn wsX0_isMovedWithin (va_wsS RX0 46 yX0_bits wsX0_bits) := goodIn_app (goodIn_of _ (by decide +kernel)) ggX0_isMovedWithin_X0_bits
theorem dX0_isMovedWithin_0 : decode cX0_isMovedWithin 0 = .ok (.iload_n 0, 1) := by decide +kernel
theorem dX0_isMovedWithin_1 : decode cX0_isMovedWithin 1 = .ok (.invokestatic 73, 3) := by decide +kernel
theorem dX0_isMovedWithin_4 : decode cX0_isMovedWithin 4 = .ok (.ifCond .ne 16, 3) := by decide +kernel
theorem dX0_isMovedWithin_7 : decode cX0_isMovedWithin 7 = .ok (.iload_n 0, 1) := by decide +kernel
theorem dX0_isMovedWithin_8 : decode cX0_isMovedWithin 8 = .ok (.bipush 10, 2) := by decide +kernel
end
section
theorem dX0_isMovedWithin_10 : decode cX0_isMovedWithin 10 = .ok (.bipush 6, 2) := by decide +kernel
theorem dX0_isMovedWithin_12 : decode cX0_isMovedWithin 12 = .ok (.invokestatic 46, 3) := by decide +kernel
theorem dX0_isMovedWithin_15 : decode cX0_isMovedWithin 15 = .ok (.bipush 32, 2) := by decide +kernel
theorem dX0_isMovedWithin_17 : decode cX0_isMovedWithin 17 = .ok (.if_icmp .ge 7, 3) := by decide +kernel
theorem dX0_isMovedWithin_20 : decode cX0_isMovedWithin 20 = .ok (.iconst 1, 1) := by decide +kernel
theorem dX0_isMovedWithin_21 : decode cX0_isMovedWithin 21 = .ok (.goto 4, 3) := by decide +kernel
theorem dX0_isMovedWithin_24 : decode cX0_isMovedWithin 24 = .ok (.iconst 0, 1) := by decide +kernel
theorem dX0_isMovedWithin_25 : decode cX0_isMovedWithin 25 = .ok (.ireturn, 1) := by decide +kernel
theorem dX0_isTwo_0 : decode cX0_isTwo 0 = .ok (.iload_n 0, 1) := by decide +kernel
theorem dX0_isTwo_1 : decode cX0_isTwo 1 = .ok (.iconst 2, 1) := by decide +kernel
theorem dX0_isTwo_2 : decode cX0_isTwo 2 = .ok (.if_icmp .eq 20, 3) := by decide +kernel
theorem dX0_isTwo_5 : decode cX0_isTwo 5 = .ok (.iload_n 0, 1) := by decide +kernel
theorem dX0_isTwo_6 : decode cX0_isTwo 6 = .ok (.iconst 3, 1) := by decide +kernel
theorem dX0_isTwo_7 : decode cX0_isTwo 7 = .ok (.if_icmp .eq 15, 3) := by decide +kernel
theorem dX0_isTwo_10 : decode cX0_isTwo 10 = .ok (.iload_n 0, 1) := by decide +kernel
theorem dX0_isTwo_11 : decode cX0_isTwo 11 = .ok (.bipush 8, 2) := by decide +kernel
theorem dX0_isTwo_13 : decode cX0_isTwo 13 = .ok (.if_icmp .lt 13, 3) := by decide +kernel
theorem dX0_isTwo_16 : decode cX0_isTwo 16 = .ok (.iload_n 0, 1) := by decide +kernel
theorem dX0_isTwo_17 : decode cX0_isTwo 17 = .ok (.bipush 10, 2) := by decide +kernel
theorem dX0_isTwo_19 : decode cX0_isTwo 19 = .ok (.if_icmp .gt 7, 3) := by decide +kernel
theorem dX0_isTwo_22 : decode cX0_isTwo 22 = .ok (.iconst 1, 1) := by decide +kernel
theorem dX0_isTwo_23 : decode cX0_isTwo 23 = .ok (.goto 4, 3) := by decide +kernel
theorem dX0_isTwo_26 : decode cX0_isTwo 26 = .ok (.iconst 0, 1) := by decide +kernel
theorem dX0_isTwo_27 : decode cX0_isTwo 27 = .ok (.ireturn, 1) := by decide +kernel
theorem dX0_isCondition_0 : decode cX0_isCondition 0 = .ok (.iload_n 0, 1) := by decide +kernel
theorem dX0_isCondition_1 : decode cX0_isCondition 1 = .ok (.bipush 13, 2) := by decide +kernel
theorem dX0_isCondition_3 : decode cX0_isCondition 3 = .ok (.if_icmp .gt 7, 3) := by decide +kernel
theorem dX0_isCondition_6 : decode cX0_isCondition 6 = .ok (.iconst 1, 1) := by decide +kernel
theorem dX0_isCondition_7 : decode cX0_isCondition 7 = .ok (.goto 4, 3) := by decide +kernel
theorem dX0_isCondition_10 : decode cX0_isCondition 10 = .ok (.iconst 0, 1) := by decide +kernel
theorem dX0_isCondition_11 : decode cX0_isCondition 11 = .ok (.ireturn, 1) := by decide +kernel
theorem dX0_isLoad_0 : decode cX0_isLoad 0 = .ok (.iload_n 1, 1) := by decide +kernel
theorem dX0_isLoad_1 : decode cX0_isLoad 1 = .ok (.iconst 2, 1) := by decide +kernel
theorem dX0_isLoad_2 : decode cX0_isLoad 2 = .ok (.if_icmp .ne 14, 3) := by decide +kernel
theorem dX0_isLoad_5 : decode cX0_isLoad 5 = .ok (.iload_n 0, 1) := by decide +kernel
theorem dX0_isLoad_6 : decode cX0_isLoad 6 = .ok (.iconst 2, 1) := by decide +kernel
theorem dX0_isLoad_7 : decode cX0_isLoad 7 = .ok (.if_icmp .ne 7, 3) := by decide +kernel
theorem dX0_isLoad_10 : decode cX0_isLoad 10 = .ok (.iconst 1, 1) := by decide +kernel
theorem dX0_isLoad_11 : decode cX0_isLoad 11 = .ok (.goto 4, 3) := by decide +kernel
theorem dX0_isLoad_14 : decode cX0_isLoad 14 = .ok (.iconst 0, 1) := by decide +kernel
theorem dX0_isLoad_15 : decode cX0_isLoad 15 = .ok (.ireturn, 1) := by decide +kernel
theorem dX0_isLoad_16 : decode cX0_isLoad 16 = .ok (.iload_n 1, 1) := by decide +kernel
theorem dX0_isLoad_17 : decode cX0_isLoad 17 = .ok (.iconst 3, 1) := by decide +kernel
theorem dX0_isLoad_18 : decode cX0_isLoad 18 = .ok (.if_icmp .eq 12, 3) := by decide +kernel
theorem dX0_isLoad_21 : decode cX0_isLoad 21 = .ok (.iload_n 0, 1) := by decide +kernel
theorem dX0_isLoad_22 : decode cX0_isLoad 22 = .ok (.iconst 1, 1) := by decide +kernel
theorem dX0_isLoad_23 : decode cX0_isLoad 23 = .ok (.if_icmp .eq 7, 3) := by decide +kernel
theorem dX0_isLoad_26 : decode cX0_isLoad 26 = .ok (.iconst 1, 1) := by decide +kernel
theorem dX0_isLoad_27 : decode cX0_isLoad 27 = .ok (.goto 4, 3) := by decide +kernel
theorem dX0_isLoad_30 : decode cX0_isLoad 30 = .ok (.iconst 0, 1) := by decide +kernel
theorem dX0_isLoad_31 : decode cX0_isLoad 31 = .ok (.ireturn, 1) := by decide +kernel
set_option maxRecDepth 20000 in
theorem ggX0_isPair_X0_bits : GoodIn wsX0_isPair wsX0_bits := goodIn_r _ [4, 5, 6, 3, 7] (by decide +kernel) (by decide +kernel)
set_option maxRecDepth 20000 in
theorem gX0_isPair_X0_bits : GoodIn wsX0_isPair (va_wsS RX0 46 yX0_bits wsX0_bits) := goodIn_app (goodIn_of _ (by decide +kernel)) ggX0_isPair_X0_bits
theorem dX0_isPair_0 : decode cX0_isPair 0 = .ok (.iload_n 0, 1) := by decide +kernel
theorem dX0_isPair_1 : decode cX0_isPair 1 = .ok (.bipush 23, 2) := by decide +kernel
theorem dX0_isPair_3 : decode cX0_isPair 3 = .ok (.iconst 2, 1) := by decide +kernel
theorem dX0_isPair_4 : decode cX0_isPair 4 = .ok (.invokestatic 46, 3) := by decide +kernel
theorem dX0_isPair_7 : decode cX0_isPair 7 = .ok (.istore_n 1, 1) := by decide +kernel
theorem dX0_isPair_8 : decode cX0_isPair 8 = .ok (.iload_n 0, 1) := by decide +kernel
theorem dX0_isPair_9 : decode cX0_isPair 9 = .ok (.iconst 0, 1) := by decide +kernel
theorem dX0_isPair_10 : decode cX0_isPair 10 = .ok (.iconst 5, 1) := by decide +kernel
theorem dX0_isPair_11 : decode cX0_isPair 11 = .ok (.invokestatic 46, 3) := by decide +kernel
theorem dX0_isPair_14 : decode cX0_isPair 14 = .ok (.istore_n 2, 1) := by decide +kernel
theorem dX0_isPair_15 : decode cX0_isPair 15 = .ok (.iload_n 0, 1) := by decide +kernel
theorem dX0_isPair_16 : decode cX0_isPair 16 = .ok (.iconst 5, 1) := by decide +kernel
theorem dX0_isPair_17 : decode cX0_isPair 17 = .ok (.iconst 5, 1) := by decide +kernel
theorem dX0_isPair_18 : decode cX0_isPair 18 = .ok (.invokestatic 46, 3) := by decide +kernel
theorem dX0_isPair_21 : decode cX0_isPair 21 = .ok (.istore_n 3, 1) := by decide +kernel
theorem dX0_isPair_22 : decode cX0_isPair 22 = .ok (.iload_n 0, 1) := by decide +kernel
theorem dX0_isPair_23 : decode cX0_isPair 23 = .ok (.bipush 10, 2) := by decide +kernel
theorem dX0_isPair_25 : decode cX0_isPair 25 = .ok (.iconst 5, 1) := by decide +kernel
theorem dX0_isPair_26 : decode cX0_isPair 26 = .ok (.invokestatic 46, 3) := by decide +kernel
theorem dX0_isPair_29 : decode cX0_isPair 29 = .ok (.istore 4, 2) := by decide +kernel
theorem dX0_isPair_31 : decode cX0_isPair 31 = .ok (.iload_n 0, 1) := by decide +kernel
theorem dX0_isPair_32 : decode cX0_isPair 32 = .ok (.bipush 22, 2) := by decide +kernel
theorem dX0_isPair_34 : decode cX0_isPair 34 = .ok (.iconst 1, 1) := by decide +kernel
theorem dX0_isPair_35 : decode cX0_isPair 35 = .ok (.invokestatic 46, 3) := by decide +kernel
theorem dX0_isPair_38 : decode cX0_isPair 38 = .ok (.iconst 1, 1) := by decide +kernel
theorem dX0_isPair_39 : decode cX0_isPair 39 = .ok (.if_icmp .ne 7, 3) := by decide +kernel
theorem dX0_isPair_42 : decode cX0_isPair 42 = .ok (.iconst 1, 1) := by decide +kernel
theorem dX0_isPair_43 : decode cX0_isPair 43 = .ok (.goto 4, 3) := by decide +kernel
theorem dX0_isPair_46 : decode cX0_isPair 46 = .ok (.iconst 0, 1) := by decide +kernel
theorem dX0_isPair_47 : decode cX0_isPair 47 = .ok (.istore 5, 2) := by decide +kernel
theorem dX0_isPair_49 : decode cX0_isPair 49 = .ok (.iload_n 1, 1) := by decide +kernel
theorem dX0_isPair_50 : decode cX0_isPair 50 = .ok (.ifCond .eq 14, 3) := by decide +kernel
theorem dX0_isPair_53 : decode cX0_isPair 53 = .ok (.iload 5, 2) := by decide +kernel
theorem dX0_isPair_55 : decode cX0_isPair 55 = .ok (.ifCond .eq 11, 3) := by decide +kernel
theorem dX0_isPair_58 : decode cX0_isPair 58 = .ok (.iload_n 2, 1) := by decide +kernel
theorem dX0_isPair_59 : decode cX0_isPair 59 = .ok (.iload 4, 2) := by decide +kernel
theorem dX0_isPair_61 : decode cX0_isPair 61 = .ok (.if_icmp .ne 5, 3) := by decide +kernel
theorem dX0_isPair_64 : decode cX0_isPair 64 = .ok (.iconst 0, 1) := by decide +kernel
theorem dX0_isPair_65 : decode cX0_isPair 65 = .ok (.ireturn, 1) := by decide +kernel
theorem dX0_isPair_66 : decode cX0_isPair 66 = .ok (.iload_n 1, 1) := by decide +kernel
theorem dX0_isPair_67 : decode cX0_isPair 67 = .ok (.iconst 2, 1) := by decide +kernel
theorem dX0_isPair_68 : decode cX0_isPair 68 = .ok (.if_icmp .eq 7, 3) := by decide +kernel
theorem dX0_isPair_71 : decode cX0_isPair 71 = .ok (.iconst 1, 1) := by decide +kernel
theorem dX0_isPair_72 : decode cX0_isPair 72 = .ok (.goto 4, 3) := by decide +kernel
theorem dX0_isPair_75 : decode cX0_isPair 75 = .ok (.iconst 0, 1) := by decide +kernel
theorem dX0_isPair_76 : decode cX0_isPair 76 = .ok (.istore 6, 2) := by decide +kernel
theorem dX0_isPair_78 : decode cX0_isPair 78 = .ok (.iload 6, 2) := by decide +kernel
theorem dX0_isPair_80 : decode cX0_isPair 80 = .ok (.ifCond .eq 20, 3) := by decide +kernel
theorem dX0_isPair_83 : decode cX0_isPair 83 = .ok (.iload_n 3, 1) := by decide +kernel
theorem dX0_isPair_84 : decode cX0_isPair 84 = .ok (.bipush 31, 2) := by decide +kernel
theorem dX0_isPair_86 : decode cX0_isPair 86 = .ok (.if_icmp .eq 14, 3) := by decide +kernel
theorem dX0_isPair_89 : decode cX0_isPair 89 = .ok (.iload_n 3, 1) := by decide +kernel
theorem dX0_isPair_90 : decode cX0_isPair 90 = .ok (.iload_n 2, 1) := by decide +kernel
theorem dX0_isPair_91 : decode cX0_isPair 91 = .ok (.if_icmp .eq 13, 3) := by decide +kernel
theorem dX0_isPair_94 : decode cX0_isPair 94 = .ok (.iload_n 3, 1) := by decide +kernel
theorem dX0_isPair_95 : decode cX0_isPair 95 = .ok (.iload 4, 2) := by decide +kernel
theorem dX0_isPair_97 : decode cX0_isPair 97 = .ok (.if_icmp .eq 7, 3) := by decide +kernel
theorem dX0_isPair_100 : decode cX0_isPair 100 = .ok (.iconst 1, 1) := by decide +kernel
theorem dX0_isPair_101 : decode cX0_isPair 101 = .ok (.goto 4, 3) := by decide +kernel
theorem dX0_isPair_104 : decode cX0_isPair 104 = .ok (.iconst 0, 1) := by decide +kernel
theorem dX0_isPair_105 : decode cX0_isPair 105 = .ok (.ireturn, 1) := by decide +kernel
theorem dX0_isGoing_0 : decode cX0_isGoing 0 = .ok (.iload_n 0, 1) := by decide +kernel
theorem dX0_isGoing_1 : decode cX0_isGoing 1 = .ok (.bipush 12, 2) := by decide +kernel
theorem dX0_isGoing_3 : decode cX0_isGoing 3 = .ok (.if_icmp .lt 13, 3) := by decide +kernel
theorem dX0_isGoing_6 : decode cX0_isGoing 6 = .ok (.iload_n 0, 1) := by decide +kernel
theorem dX0_isGoing_7 : decode cX0_isGoing 7 = .ok (.bipush 16, 2) := by decide +kernel
theorem dX0_isGoing_9 : decode cX0_isGoing 9 = .ok (.if_icmp .gt 7, 3) := by decide +kernel
theorem dX0_isGoing_12 : decode cX0_isGoing 12 = .ok (.iconst 1, 1) := by decide +kernel
theorem dX0_isGoing_13 : decode cX0_isGoing 13 = .ok (.goto 4, 3) := by decide +kernel
theorem dX0_isGoing_16 : decode cX0_isGoing 16 = .ok (.iconst 0, 1) := by decide +kernel
theorem dX0_isGoing_17 : decode cX0_isGoing 17 = .ok (.ireturn, 1) := by decide +kernel
theorem dX0_distancePlace_0 : decode cX0_distancePlace 0 = .ok (.iload_n 0, 1) := by decide +kernel
theorem dX0_distancePlace_1 : decode cX0_distancePlace 1 = .ok (.bipush 12, 2) := by decide +kernel
theorem dX0_distancePlace_3 : decode cX0_distancePlace 3 = .ok (.if_icmp .eq 9, 3) := by decide +kernel
theorem dX0_distancePlace_6 : decode cX0_distancePlace 6 = .ok (.iload_n 0, 1) := by decide +kernel
theorem dX0_distancePlace_7 : decode cX0_distancePlace 7 = .ok (.bipush 13, 2) := by decide +kernel
theorem dX0_distancePlace_9 : decode cX0_distancePlace 9 = .ok (.if_icmp .ne 7, 3) := by decide +kernel
theorem dX0_distancePlace_12 : decode cX0_distancePlace 12 = .ok (.iconst 0, 1) := by decide +kernel
theorem dX0_distancePlace_13 : decode cX0_distancePlace 13 = .ok (.goto 4, 3) := by decide +kernel
theorem dX0_distancePlace_16 : decode cX0_distancePlace 16 = .ok (.iconst 5, 1) := by decide +kernel
theorem dX0_distancePlace_17 : decode cX0_distancePlace 17 = .ok (.ireturn, 1) := by decide +kernel
theorem dX0_distanceWidth_0 : decode cX0_distanceWidth 0 = .ok (.iload_n 0, 1) := by decide +kernel
theorem dX0_distanceWidth_1 : decode cX0_distanceWidth 1 = .ok (.bipush 12, 2) := by decide +kernel
theorem dX0_distanceWidth_3 : decode cX0_distanceWidth 3 = .ok (.if_icmp .eq 9, 3) := by decide +kernel
theorem dX0_distanceWidth_6 : decode cX0_distanceWidth 6 = .ok (.iload_n 0, 1) := by decide +kernel
theorem dX0_distanceWidth_7 : decode cX0_distanceWidth 7 = .ok (.bipush 13, 2) := by decide +kernel
theorem dX0_distanceWidth_9 : decode cX0_distanceWidth 9 = .ok (.if_icmp .ne 6, 3) := by decide +kernel
theorem dX0_distanceWidth_12 : decode cX0_distanceWidth 12 = .ok (.bipush 26, 2) := by decide +kernel
theorem dX0_distanceWidth_14 : decode cX0_distanceWidth 14 = .ok (.ireturn, 1) := by decide +kernel
theorem dX0_distanceWidth_15 : decode cX0_distanceWidth 15 = .ok (.iload_n 0, 1) := by decide +kernel
theorem dX0_distanceWidth_16 : decode cX0_distanceWidth 16 = .ok (.bipush 16, 2) := by decide +kernel
theorem dX0_distanceWidth_18 : decode cX0_distanceWidth 18 = .ok (.if_icmp .ne 8, 3) := by decide +kernel
theorem dX0_distanceWidth_21 : decode cX0_distanceWidth 21 = .ok (.bipush 14, 2) := by decide +kernel
theorem dX0_distanceWidth_23 : decode cX0_distanceWidth 23 = .ok (.goto 5, 3) := by decide +kernel
theorem dX0_distanceWidth_26 : decode cX0_distanceWidth 26 = .ok (.bipush 19, 2) := by decide +kernel
theorem dX0_distanceWidth_28 : decode cX0_distanceWidth 28 = .ok (.ireturn, 1) := by decide +kernel
set_option maxRecDepth 20000 in
theorem ggX0_isWithinReach_X0_isGoing : GoodIn wsX0_isWithinReach wsX0_isGoing := goodIn_r _ [5] (by decide +kernel) (by decide +kernel)
set_option maxRecDepth 20000 in
theorem gX0_isWithinReach_X0_isGoing : GoodIn wsX0_isWithinReach (va_wsS RX0 20 yX0_isGoing wsX0_isGoing) := goodIn_app (goodIn_of _ (by decide +kernel)) ggX0_isWithinReach_X0_isGoing
set_option maxRecDepth 20000 in
theorem ggX0_isWithinReach_X0_distanceWidth : GoodIn wsX0_isWithinReach wsX0_distanceWidth := goodIn_r _ [8] (by decide +kernel) (by decide +kernel)
set_option maxRecDepth 20000 in
theorem gX0_isWithinReach_X0_distanceWidth : GoodIn wsX0_isWithinReach (va_wsS RX0 27 yX0_distanceWidth wsX0_distanceWidth) := goodIn_app (goodIn_of _ (by decide +kernel)) ggX0_isWithinReach_X0_distanceWidth
theorem dX0_isWithinReach_0 : decode cX0_isWithinReach 0 = .ok (.iload_n 0, 1) := by decide +kernel
theorem dX0_isWithinReach_1 : decode cX0_isWithinReach 1 = .ok (.invokestatic 20, 3) := by decide +kernel
theorem dX0_isWithinReach_4 : decode cX0_isWithinReach 4 = .ok (.ifCond .eq 13, 3) := by decide +kernel
theorem dX0_isWithinReach_7 : decode cX0_isWithinReach 7 = .ok (.lload_n 1, 1) := by decide +kernel
theorem dX0_isWithinReach_8 : decode cX0_isWithinReach 8 = .ok (.ldc2_w 88, 3) := by decide +kernel
theorem dX0_isWithinReach_11 : decode cX0_isWithinReach 11 = .ok (.land, 1) := by decide +kernel
theorem dX0_isWithinReach_12 : decode cX0_isWithinReach 12 = .ok (.lconst 0, 1) := by decide +kernel
theorem dX0_isWithinReach_13 : decode cX0_isWithinReach 13 = .ok (.lcmp, 1) := by decide +kernel
theorem dX0_isWithinReach_14 : decode cX0_isWithinReach 14 = .ok (.ifCond .eq 5, 3) := by decide +kernel
theorem dX0_isWithinReach_17 : decode cX0_isWithinReach 17 = .ok (.iconst 0, 1) := by decide +kernel
theorem dX0_isWithinReach_18 : decode cX0_isWithinReach 18 = .ok (.ireturn, 1) := by decide +kernel
theorem dX0_isWithinReach_19 : decode cX0_isWithinReach 19 = .ok (.lconst 1, 1) := by decide +kernel
theorem dX0_isWithinReach_20 : decode cX0_isWithinReach 20 = .ok (.iload_n 0, 1) := by decide +kernel
theorem dX0_isWithinReach_21 : decode cX0_isWithinReach 21 = .ok (.invokestatic 27, 3) := by decide +kernel
theorem dX0_isWithinReach_24 : decode cX0_isWithinReach 24 = .ok (.iconst 1, 1) := by decide +kernel
theorem dX0_isWithinReach_25 : decode cX0_isWithinReach 25 = .ok (.iadd, 1) := by decide +kernel
theorem dX0_isWithinReach_26 : decode cX0_isWithinReach 26 = .ok (.lshl, 1) := by decide +kernel
theorem dX0_isWithinReach_27 : decode cX0_isWithinReach 27 = .ok (.lstore_n 3, 1) := by decide +kernel
theorem dX0_isWithinReach_28 : decode cX0_isWithinReach 28 = .ok (.lload_n 1, 1) := by decide +kernel
theorem dX0_isWithinReach_29 : decode cX0_isWithinReach 29 = .ok (.lload_n 3, 1) := by decide +kernel
theorem dX0_isWithinReach_30 : decode cX0_isWithinReach 30 = .ok (.lneg, 1) := by decide +kernel
theorem dX0_isWithinReach_31 : decode cX0_isWithinReach 31 = .ok (.lcmp, 1) := by decide +kernel
theorem dX0_isWithinReach_32 : decode cX0_isWithinReach 32 = .ok (.ifCond .lt 13, 3) := by decide +kernel
theorem dX0_isWithinReach_35 : decode cX0_isWithinReach 35 = .ok (.lload_n 1, 1) := by decide +kernel
theorem dX0_isWithinReach_36 : decode cX0_isWithinReach 36 = .ok (.lload_n 3, 1) := by decide +kernel
theorem dX0_isWithinReach_37 : decode cX0_isWithinReach 37 = .ok (.lcmp, 1) := by decide +kernel
theorem dX0_isWithinReach_38 : decode cX0_isWithinReach 38 = .ok (.ifCond .ge 7, 3) := by decide +kernel
theorem dX0_isWithinReach_41 : decode cX0_isWithinReach 41 = .ok (.iconst 1, 1) := by decide +kernel
theorem dX0_isWithinReach_42 : decode cX0_isWithinReach 42 = .ok (.goto 4, 3) := by decide +kernel
theorem dX0_isWithinReach_45 : decode cX0_isWithinReach 45 = .ok (.iconst 0, 1) := by decide +kernel
theorem dX0_isWithinReach_46 : decode cX0_isWithinReach 46 = .ok (.ireturn, 1) := by decide +kernel
theorem dX0_hasD_0 : decode cX0_hasD 0 = .ok (.iload_n 0, 1) := by decide +kernel
theorem dX0_hasD_1 : decode cX0_hasD 1 = .ok (.iconst 1, 1) := by decide +kernel
theorem dX0_hasD_2 : decode cX0_hasD 2 = .ok (.if_icmp .lt 9, 3) := by decide +kernel
theorem dX0_hasD_5 : decode cX0_hasD 5 = .ok (.iload_n 0, 1) := by decide +kernel
theorem dX0_hasD_6 : decode cX0_hasD 6 = .ok (.bipush 11, 2) := by decide +kernel
theorem dX0_hasD_8 : decode cX0_hasD 8 = .ok (.if_icmp .le 15, 3) := by decide +kernel
theorem dX0_hasD_11 : decode cX0_hasD 11 = .ok (.iload_n 0, 1) := by decide +kernel
theorem dX0_hasD_12 : decode cX0_hasD 12 = .ok (.bipush 15, 2) := by decide +kernel
theorem dX0_hasD_14 : decode cX0_hasD 14 = .ok (.if_icmp .eq 9, 3) := by decide +kernel
theorem dX0_hasD_17 : decode cX0_hasD 17 = .ok (.iload_n 0, 1) := by decide +kernel
theorem dX0_hasD_18 : decode cX0_hasD 18 = .ok (.bipush 16, 2) := by decide +kernel
theorem dX0_hasD_20 : decode cX0_hasD 20 = .ok (.if_icmp .ne 7, 3) := by decide +kernel
theorem dX0_hasD_23 : decode cX0_hasD 23 = .ok (.iconst 1, 1) := by decide +kernel
theorem dX0_hasD_24 : decode cX0_hasD 24 = .ok (.goto 4, 3) := by decide +kernel
theorem dX0_hasD_27 : decode cX0_hasD 27 = .ok (.iconst 0, 1) := by decide +kernel
theorem dX0_hasD_28 : decode cX0_hasD 28 = .ok (.ireturn, 1) := by decide +kernel
theorem dX0_hasN_0 : decode cX0_hasN 0 = .ok (.iload_n 0, 1) := by decide +kernel
theorem dX0_hasN_1 : decode cX0_hasN 1 = .ok (.iconst 1, 1) := by decide +kernel
theorem dX0_hasN_2 : decode cX0_hasN 2 = .ok (.if_icmp .lt 8, 3) := by decide +kernel
theorem dX0_hasN_5 : decode cX0_hasN 5 = .ok (.iload_n 0, 1) := by decide +kernel
theorem dX0_hasN_6 : decode cX0_hasN 6 = .ok (.iconst 3, 1) := by decide +kernel
theorem dX0_hasN_7 : decode cX0_hasN 7 = .ok (.if_icmp .le 27, 3) := by decide +kernel
theorem dX0_hasN_10 : decode cX0_hasN 10 = .ok (.iload_n 0, 1) := by decide +kernel
theorem dX0_hasN_11 : decode cX0_hasN 11 = .ok (.bipush 6, 2) := by decide +kernel
theorem dX0_hasN_13 : decode cX0_hasN 13 = .ok (.if_icmp .lt 9, 3) := by decide +kernel
theorem dX0_hasN_16 : decode cX0_hasN 16 = .ok (.iload_n 0, 1) := by decide +kernel
theorem dX0_hasN_17 : decode cX0_hasN 17 = .ok (.bipush 11, 2) := by decide +kernel
theorem dX0_hasN_19 : decode cX0_hasN 19 = .ok (.if_icmp .le 15, 3) := by decide +kernel
theorem dX0_hasN_22 : decode cX0_hasN 22 = .ok (.iload_n 0, 1) := by decide +kernel
theorem dX0_hasN_23 : decode cX0_hasN 23 = .ok (.bipush 17, 2) := by decide +kernel
theorem dX0_hasN_25 : decode cX0_hasN 25 = .ok (.if_icmp .lt 13, 3) := by decide +kernel
theorem dX0_hasN_28 : decode cX0_hasN 28 = .ok (.iload_n 0, 1) := by decide +kernel
theorem dX0_hasN_29 : decode cX0_hasN 29 = .ok (.bipush 19, 2) := by decide +kernel
theorem dX0_hasN_31 : decode cX0_hasN 31 = .ok (.if_icmp .gt 7, 3) := by decide +kernel
theorem dX0_hasN_34 : decode cX0_hasN 34 = .ok (.iconst 1, 1) := by decide +kernel
theorem dX0_hasN_35 : decode cX0_hasN 35 = .ok (.goto 4, 3) := by decide +kernel
theorem dX0_hasN_38 : decode cX0_hasN 38 = .ok (.iconst 0, 1) := by decide +kernel
theorem dX0_hasN_39 : decode cX0_hasN 39 = .ok (.ireturn, 1) := by decide +kernel
theorem dX0_hasM_0 : decode cX0_hasM 0 = .ok (.iload_n 0, 1) := by decide +kernel
theorem dX0_hasM_1 : decode cX0_hasM 1 = .ok (.iconst 2, 1) := by decide +kernel
theorem dX0_hasM_2 : decode cX0_hasM 2 = .ok (.if_icmp .eq 26, 3) := by decide +kernel
theorem dX0_hasM_5 : decode cX0_hasM 5 = .ok (.iload_n 0, 1) := by decide +kernel
theorem dX0_hasM_6 : decode cX0_hasM 6 = .ok (.iconst 3, 1) := by decide +kernel
theorem dX0_hasM_7 : decode cX0_hasM 7 = .ok (.if_icmp .eq 21, 3) := by decide +kernel
theorem dX0_hasM_10 : decode cX0_hasM 10 = .ok (.iload_n 0, 1) := by decide +kernel
theorem dX0_hasM_11 : decode cX0_hasM 11 = .ok (.bipush 6, 2) := by decide +kernel
theorem dX0_hasM_13 : decode cX0_hasM 13 = .ok (.if_icmp .lt 9, 3) := by decide +kernel
theorem dX0_hasM_16 : decode cX0_hasM 16 = .ok (.iload_n 0, 1) := by decide +kernel
theorem dX0_hasM_17 : decode cX0_hasM 17 = .ok (.bipush 8, 2) := by decide +kernel
theorem dX0_hasM_19 : decode cX0_hasM 19 = .ok (.if_icmp .le 9, 3) := by decide +kernel
theorem dX0_hasM_22 : decode cX0_hasM 22 = .ok (.iload_n 0, 1) := by decide +kernel
theorem dX0_hasM_23 : decode cX0_hasM 23 = .ok (.bipush 10, 2) := by decide +kernel
theorem dX0_hasM_25 : decode cX0_hasM 25 = .ok (.if_icmp .ne 7, 3) := by decide +kernel
theorem dX0_hasM_28 : decode cX0_hasM 28 = .ok (.iconst 1, 1) := by decide +kernel
theorem dX0_hasM_29 : decode cX0_hasM 29 = .ok (.goto 4, 3) := by decide +kernel
theorem dX0_hasM_32 : decode cX0_hasM 32 = .ok (.iconst 0, 1) := by decide +kernel
theorem dX0_hasM_33 : decode cX0_hasM 33 = .ok (.ireturn, 1) := by decide +kernel
theorem dX0_hasA_0 : decode cX0_hasA 0 = .ok (.iload_n 0, 1) := by decide +kernel
theorem dX0_hasA_1 : decode cX0_hasA 1 = .ok (.bipush 6, 2) := by decide +kernel
theorem dX0_hasA_3 : decode cX0_hasA 3 = .ok (.if_icmp .eq 9, 3) := by decide +kernel
theorem dX0_hasA_6 : decode cX0_hasA 6 = .ok (.iload_n 0, 1) := by decide +kernel
theorem dX0_hasA_7 : decode cX0_hasA 7 = .ok (.bipush 11, 2) := by decide +kernel
theorem dX0_hasA_9 : decode cX0_hasA 9 = .ok (.if_icmp .ne 7, 3) := by decide +kernel
theorem dX0_hasA_12 : decode cX0_hasA 12 = .ok (.iconst 1, 1) := by decide +kernel
theorem dX0_hasA_13 : decode cX0_hasA 13 = .ok (.goto 4, 3) := by decide +kernel
theorem dX0_hasA_16 : decode cX0_hasA 16 = .ok (.iconst 0, 1) := by decide +kernel
theorem dX0_hasA_17 : decode cX0_hasA 17 = .ok (.ireturn, 1) := by decide +kernel
theorem dX0_isLong_0 : decode cX0_isLong 0 = .ok (.iload_n 0, 1) := by decide +kernel
theorem dX0_isLong_1 : decode cX0_isLong 1 = .ok (.ifCond .ge 7, 3) := by decide +kernel
theorem dX0_isLong_4 : decode cX0_isLong 4 = .ok (.iconst 1, 1) := by decide +kernel
theorem dX0_isLong_5 : decode cX0_isLong 5 = .ok (.goto 4, 3) := by decide +kernel
theorem dX0_isLong_8 : decode cX0_isLong 8 = .ok (.iconst 0, 1) := by decide +kernel
theorem dX0_isLong_9 : decode cX0_isLong 9 = .ok (.ireturn, 1) := by decide +kernel
set_option maxRecDepth 20000 in
theorem ggX0_bits_X0_lowBits : GoodIn wsX0_bits wsX0_lowBits := goodIn_r _ [4] (by decide +kernel) (by decide +kernel)
set_option maxRecDepth 20000 in
theorem gX0_bits_X0_lowBits : GoodIn wsX0_bits (va_wsS RX0 38 yX0_lowBits wsX0_lowBits) := goodIn_app (goodIn_of _ (by decide +kernel)) ggX0_bits_X0_lowBits
theorem dX0_bits_0 : decode cX0_bits 0 = .ok (.iload_n 0, 1) := by decide +kernel
theorem dX0_bits_1 : decode cX0_bits 1 = .ok (.iload_n 1, 1) := by decide +kernel
theorem dX0_bits_2 : decode cX0_bits 2 = .ok (.iushr, 1) := by decide +kernel
theorem dX0_bits_3 : decode cX0_bits 3 = .ok (.iload_n 2, 1) := by decide +kernel
theorem dX0_bits_4 : decode cX0_bits 4 = .ok (.invokestatic 38, 3) := by decide +kernel
theorem dX0_bits_7 : decode cX0_bits 7 = .ok (.iand, 1) := by decide +kernel
theorem dX0_bits_8 : decode cX0_bits 8 = .ok (.ireturn, 1) := by decide +kernel
theorem dX0_signedBits_0 : decode cX0_signedBits 0 = .ok (.iload_n 0, 1) := by decide +kernel
theorem dX0_signedBits_1 : decode cX0_signedBits 1 = .ok (.bipush 32, 2) := by decide +kernel
theorem dX0_signedBits_3 : decode cX0_signedBits 3 = .ok (.iload_n 1, 1) := by decide +kernel
theorem dX0_signedBits_4 : decode cX0_signedBits 4 = .ok (.isub, 1) := by decide +kernel
theorem dX0_signedBits_5 : decode cX0_signedBits 5 = .ok (.iload_n 2, 1) := by decide +kernel
theorem dX0_signedBits_6 : decode cX0_signedBits 6 = .ok (.isub, 1) := by decide +kernel
theorem dX0_signedBits_7 : decode cX0_signedBits 7 = .ok (.ishl, 1) := by decide +kernel
theorem dX0_signedBits_8 : decode cX0_signedBits 8 = .ok (.bipush 32, 2) := by decide +kernel
theorem dX0_signedBits_10 : decode cX0_signedBits 10 = .ok (.iload_n 2, 1) := by decide +kernel
theorem dX0_signedBits_11 : decode cX0_signedBits 11 = .ok (.isub, 1) := by decide +kernel
theorem dX0_signedBits_12 : decode cX0_signedBits 12 = .ok (.ishr, 1) := by decide +kernel
theorem dX0_signedBits_13 : decode cX0_signedBits 13 = .ok (.ireturn, 1) := by decide +kernel
theorem dX0_lowBits_0 : decode cX0_lowBits 0 = .ok (.iconst 1, 1) := by decide +kernel
theorem dX0_lowBits_1 : decode cX0_lowBits 1 = .ok (.iload_n 0, 1) := by decide +kernel
theorem dX0_lowBits_2 : decode cX0_lowBits 2 = .ok (.ishl, 1) := by decide +kernel
theorem dX0_lowBits_3 : decode cX0_lowBits 3 = .ok (.iconst 1, 1) := by decide +kernel
theorem dX0_lowBits_4 : decode cX0_lowBits 4 = .ok (.isub, 1) := by decide +kernel
theorem dX0_lowBits_5 : decode cX0_lowBits 5 = .ok (.ireturn, 1) := by decide +kernel
theorem dX1_init_0 : decode cX1_init 0 = .ok (.aload_n 0, 1) := by decide +kernel
theorem dX1_init_1 : decode cX1_init 1 = .ok (.invokespecial 1, 3) := by decide +kernel
theorem dX1_init_4 : decode cX1_init 4 = .ok (.return_, 1) := by decide +kernel
theorem dX1_bits_0 : decode cX1_bits 0 = .ok (.iload_n 0, 1) := by decide +kernel
theorem dX1_bits_1 : decode cX1_bits 1 = .ok (.bipush 31, 2) := by decide +kernel
theorem dX1_bits_3 : decode cX1_bits 3 = .ok (.iload_n 2, 1) := by decide +kernel
theorem dX1_bits_4 : decode cX1_bits 4 = .ok (.isub, 1) := by decide +kernel
theorem dX1_bits_5 : decode cX1_bits 5 = .ok (.ishl, 1) := by decide +kernel
theorem dX1_bits_6 : decode cX1_bits 6 = .ok (.bipush 31, 2) := by decide +kernel
theorem dX1_bits_8 : decode cX1_bits 8 = .ok (.iload_n 2, 1) := by decide +kernel
theorem dX1_bits_9 : decode cX1_bits 9 = .ok (.isub, 1) := by decide +kernel
theorem dX1_bits_10 : decode cX1_bits 10 = .ok (.iload_n 1, 1) := by decide +kernel
theorem dX1_bits_11 : decode cX1_bits 11 = .ok (.iadd, 1) := by decide +kernel
theorem dX1_bits_12 : decode cX1_bits 12 = .ok (.iushr, 1) := by decide +kernel
theorem dX1_bits_13 : decode cX1_bits 13 = .ok (.ireturn, 1) := by decide +kernel
theorem dX1_signed_0 : decode cX1_signed 0 = .ok (.iload_n 0, 1) := by decide +kernel
theorem dX1_signed_1 : decode cX1_signed 1 = .ok (.bipush 31, 2) := by decide +kernel
theorem dX1_signed_3 : decode cX1_signed 3 = .ok (.iload_n 2, 1) := by decide +kernel
theorem dX1_signed_4 : decode cX1_signed 4 = .ok (.isub, 1) := by decide +kernel
theorem dX1_signed_5 : decode cX1_signed 5 = .ok (.ishl, 1) := by decide +kernel
theorem dX1_signed_6 : decode cX1_signed 6 = .ok (.bipush 31, 2) := by decide +kernel
theorem dX1_signed_8 : decode cX1_signed 8 = .ok (.iload_n 2, 1) := by decide +kernel
theorem dX1_signed_9 : decode cX1_signed 9 = .ok (.isub, 1) := by decide +kernel
theorem dX1_signed_10 : decode cX1_signed 10 = .ok (.iload_n 1, 1) := by decide +kernel
theorem dX1_signed_11 : decode cX1_signed 11 = .ok (.iadd, 1) := by decide +kernel
theorem dX1_signed_12 : decode cX1_signed 12 = .ok (.ishr, 1) := by decide +kernel
theorem dX1_signed_13 : decode cX1_signed 13 = .ok (.ireturn, 1) := by decide +kernel
set_option maxRecDepth 20000 in
theorem ggX1_kind_X1_bits : GoodIn wsX1_kind wsX1_bits := goodIn_r _ [4] (by decide +kernel) (by decide +kernel)
set_option maxRecDepth 20000 in
theorem gX1_kind_X1_bits : GoodIn wsX1_kind (va_wsS RX1 7 yX1_bits wsX1_bits) := goodIn_app (goodIn_of _ (by decide +kernel)) ggX1_kind_X1_bits
set_option maxRecDepth 20000 in
theorem ggX1_kind_X1_isMoved : GoodIn wsX1_kind wsX1_isMoved := goodIn_r _ [7, 1, 2, 3, 4] (by decide +kernel) (by decide +kernel)
set_option maxRecDepth 20000 in
theorem gX1_kind_X1_isMoved : GoodIn wsX1_kind (va_wsS RX1 13 yX1_isMoved wsX1_isMoved) := goodIn_app (goodIn_of _ (by decide +kernel)) ggX1_kind_X1_isMoved
set_option maxRecDepth 20000 in
theorem ggX1_kind_X1_inTwo : GoodIn wsX1_kind wsX1_inTwo := goodIn_r _ [10, 1, 2, 3, 4] (by decide +kernel) (by decide +kernel)
set_option maxRecDepth 20000 in
theorem gX1_kind_X1_inTwo : GoodIn wsX1_kind (va_wsS RX1 17 yX1_inTwo wsX1_inTwo) := goodIn_app (goodIn_of _ (by decide +kernel)) ggX1_kind_X1_inTwo
set_option maxRecDepth 20000 in
theorem ggX1_kind_X1_isByRegister : GoodIn wsX1_kind wsX1_isByRegister := goodIn_r _ [13, 1, 2, 3, 4] (by decide +kernel) (by decide +kernel)
set_option maxRecDepth 20000 in
theorem gX1_kind_X1_isByRegister : GoodIn wsX1_kind (va_wsS RX1 21 yX1_isByRegister wsX1_isByRegister) := goodIn_app (goodIn_of _ (by decide +kernel)) ggX1_kind_X1_isByRegister
set_option maxRecDepth 20000 in
theorem ggX1_kind_X1_isSize : GoodIn wsX1_kind wsX1_isSize := goodIn_r _ [16, 1, 2, 3, 4] (by decide +kernel) (by decide +kernel)
set_option maxRecDepth 20000 in
theorem gX1_kind_X1_isSize : GoodIn wsX1_kind (va_wsS RX1 24 yX1_isSize wsX1_isSize) := goodIn_app (goodIn_of _ (by decide +kernel)) ggX1_kind_X1_isSize
set_option maxRecDepth 20000 in
theorem ggX1_kind_X1_isPair : GoodIn wsX1_kind wsX1_isPair := goodIn_r _ [19, 1, 2, 3, 4] (by decide +kernel) (by decide +kernel)
set_option maxRecDepth 20000 in
theorem gX1_kind_X1_isPair : GoodIn wsX1_kind (va_wsS RX1 27 yX1_isPair wsX1_isPair) := goodIn_app (goodIn_of _ (by decide +kernel)) ggX1_kind_X1_isPair
set_option maxRecDepth 20000 in
theorem ggX1_kind_X1_jumps : GoodIn wsX1_kind wsX1_jumps := goodIn_r _ [23, 24, 1, 2, 3, 4, 25, 26, 27] (by decide +kernel) (by decide +kernel)
set_option maxRecDepth 20000 in
theorem gX1_kind_X1_jumps : GoodIn wsX1_kind (wsV RX1 30 RX1 yX1_jumps wsX1_jumps) := goodIn_app (goodIn_of _ (by decide +kernel)) ggX1_kind_X1_jumps
theorem dX1_kind_0 : decode cX1_kind 0 = .ok (.iload_n 1, 1) := by decide +kernel
theorem dX1_kind_1 : decode cX1_kind 1 = .ok (.bipush 24, 2) := by decide +kernel
theorem dX1_kind_3 : decode cX1_kind 3 = .ok (.bipush 28, 2) := by decide +kernel
theorem dX1_kind_5 : decode cX1_kind 5 = .ok (.invokestatic 7, 3) := by decide +kernel
theorem dX1_kind_8 : decode cX1_kind 8 = .ok (.istore_n 2, 1) := by decide +kernel
theorem dX1_kind_9 : decode cX1_kind 9 = .ok (.iload_n 2, 1) := by decide +kernel
theorem dX1_kind_10 : decode cX1_kind 10 = .ok (.tableswitch 350 8 27 #[323, 323, 166, 179, 350, 350, 350, 350, 94, 104, 121, 350, 350, 350, 350, 350, 264, 297, 215, 235], 94) := by decide +kernel
theorem dX1_kind_104 : decode cX1_kind 104 = .ok (.iload_n 1, 1) := by decide +kernel
theorem dX1_kind_105 : decode cX1_kind 105 = .ok (.ifCond .ge 7, 3) := by decide +kernel
theorem dX1_kind_108 : decode cX1_kind 108 = .ok (.iconst 5, 1) := by decide +kernel
theorem dX1_kind_109 : decode cX1_kind 109 = .ok (.goto 4, 3) := by decide +kernel
theorem dX1_kind_112 : decode cX1_kind 112 = .ok (.iconst 0, 1) := by decide +kernel
theorem dX1_kind_113 : decode cX1_kind 113 = .ok (.ireturn, 1) := by decide +kernel
theorem dX1_kind_114 : decode cX1_kind 114 = .ok (.iload_n 1, 1) := by decide +kernel
theorem dX1_kind_115 : decode cX1_kind 115 = .ok (.bipush 23, 2) := by decide +kernel
theorem dX1_kind_117 : decode cX1_kind 117 = .ok (.bipush 23, 2) := by decide +kernel
theorem dX1_kind_119 : decode cX1_kind 119 = .ok (.invokestatic 7, 3) := by decide +kernel
theorem dX1_kind_122 : decode cX1_kind 122 = .ok (.ifCond .ne 7, 3) := by decide +kernel
theorem dX1_kind_125 : decode cX1_kind 125 = .ok (.iconst 1, 1) := by decide +kernel
theorem dX1_kind_126 : decode cX1_kind 126 = .ok (.goto 4, 3) := by decide +kernel
theorem dX1_kind_129 : decode cX1_kind 129 = .ok (.iconst 0, 1) := by decide +kernel
theorem dX1_kind_130 : decode cX1_kind 130 = .ok (.ireturn, 1) := by decide +kernel
theorem dX1_kind_131 : decode cX1_kind 131 = .ok (.iload_n 1, 1) := by decide +kernel
theorem dX1_kind_132 : decode cX1_kind 132 = .ok (.bipush 23, 2) := by decide +kernel
theorem dX1_kind_134 : decode cX1_kind 134 = .ok (.bipush 23, 2) := by decide +kernel
theorem dX1_kind_136 : decode cX1_kind 136 = .ok (.invokestatic 7, 3) := by decide +kernel
theorem dX1_kind_139 : decode cX1_kind 139 = .ok (.iconst 1, 1) := by decide +kernel
theorem dX1_kind_140 : decode cX1_kind 140 = .ok (.if_icmp .ne 34, 3) := by decide +kernel
theorem dX1_kind_143 : decode cX1_kind 143 = .ok (.iload_n 1, 1) := by decide +kernel
theorem dX1_kind_144 : decode cX1_kind 144 = .ok (.bipush 29, 2) := by decide +kernel
theorem dX1_kind_146 : decode cX1_kind 146 = .ok (.bipush 30, 2) := by decide +kernel
theorem dX1_kind_148 : decode cX1_kind 148 = .ok (.invokestatic 7, 3) := by decide +kernel
theorem dX1_kind_151 : decode cX1_kind 151 = .ok (.iconst 1, 1) := by decide +kernel
theorem dX1_kind_152 : decode cX1_kind 152 = .ok (.if_icmp .eq 22, 3) := by decide +kernel
theorem dX1_kind_155 : decode cX1_kind 155 = .ok (.iload_n 1, 1) := by decide +kernel
theorem dX1_kind_156 : decode cX1_kind 156 = .ok (.ifCond .lt 14, 3) := by decide +kernel
theorem dX1_kind_159 : decode cX1_kind 159 = .ok (.iload_n 1, 1) := by decide +kernel
theorem dX1_kind_160 : decode cX1_kind 160 = .ok (.bipush 22, 2) := by decide +kernel
theorem dX1_kind_162 : decode cX1_kind 162 = .ok (.bipush 22, 2) := by decide +kernel
theorem dX1_kind_164 : decode cX1_kind 164 = .ok (.invokestatic 7, 3) := by decide +kernel
theorem dX1_kind_167 : decode cX1_kind 167 = .ok (.ifCond .ne 7, 3) := by decide +kernel
theorem dX1_kind_170 : decode cX1_kind 170 = .ok (.iconst 4, 1) := by decide +kernel
theorem dX1_kind_171 : decode cX1_kind 171 = .ok (.goto 4, 3) := by decide +kernel
theorem dX1_kind_174 : decode cX1_kind 174 = .ok (.iconst 0, 1) := by decide +kernel
theorem dX1_kind_175 : decode cX1_kind 175 = .ok (.ireturn, 1) := by decide +kernel
theorem dX1_kind_176 : decode cX1_kind 176 = .ok (.iload_n 1, 1) := by decide +kernel
theorem dX1_kind_177 : decode cX1_kind 177 = .ok (.invokestatic 13, 3) := by decide +kernel
theorem dX1_kind_180 : decode cX1_kind 180 = .ok (.ifCond .eq 7, 3) := by decide +kernel
theorem dX1_kind_183 : decode cX1_kind 183 = .ok (.iconst 3, 1) := by decide +kernel
theorem dX1_kind_184 : decode cX1_kind 184 = .ok (.goto 4, 3) := by decide +kernel
theorem dX1_kind_187 : decode cX1_kind 187 = .ok (.iconst 0, 1) := by decide +kernel
theorem dX1_kind_188 : decode cX1_kind 188 = .ok (.ireturn, 1) := by decide +kernel
theorem dX1_kind_189 : decode cX1_kind 189 = .ok (.iload_n 1, 1) := by decide +kernel
theorem dX1_kind_190 : decode cX1_kind 190 = .ok (.bipush 21, 2) := by decide +kernel
theorem dX1_kind_192 : decode cX1_kind 192 = .ok (.bipush 21, 2) := by decide +kernel
theorem dX1_kind_194 : decode cX1_kind 194 = .ok (.invokestatic 7, 3) := by decide +kernel
theorem dX1_kind_197 : decode cX1_kind 197 = .ok (.ifCond .ne 26, 3) := by decide +kernel
theorem dX1_kind_200 : decode cX1_kind 200 = .ok (.iload_n 1, 1) := by decide +kernel
theorem dX1_kind_201 : decode cX1_kind 201 = .ok (.bipush 22, 2) := by decide +kernel
theorem dX1_kind_203 : decode cX1_kind 203 = .ok (.bipush 23, 2) := by decide +kernel
theorem dX1_kind_205 : decode cX1_kind 205 = .ok (.invokestatic 7, 3) := by decide +kernel
theorem dX1_kind_208 : decode cX1_kind 208 = .ok (.iconst 3, 1) := by decide +kernel
theorem dX1_kind_209 : decode cX1_kind 209 = .ok (.if_icmp .eq 14, 3) := by decide +kernel
theorem dX1_kind_212 : decode cX1_kind 212 = .ok (.iload_n 1, 1) := by decide +kernel
theorem dX1_kind_213 : decode cX1_kind 213 = .ok (.invokestatic 13, 3) := by decide +kernel
theorem dX1_kind_216 : decode cX1_kind 216 = .ok (.ifCond .eq 7, 3) := by decide +kernel
theorem dX1_kind_219 : decode cX1_kind 219 = .ok (.iconst 2, 1) := by decide +kernel
theorem dX1_kind_220 : decode cX1_kind 220 = .ok (.goto 4, 3) := by decide +kernel
theorem dX1_kind_223 : decode cX1_kind 223 = .ok (.iconst 0, 1) := by decide +kernel
theorem dX1_kind_224 : decode cX1_kind 224 = .ok (.ireturn, 1) := by decide +kernel
theorem dX1_kind_225 : decode cX1_kind 225 = .ok (.iload_n 1, 1) := by decide +kernel
theorem dX1_kind_226 : decode cX1_kind 226 = .ok (.bipush 29, 2) := by decide +kernel
theorem dX1_kind_228 : decode cX1_kind 228 = .ok (.bipush 30, 2) := by decide +kernel
theorem dX1_kind_230 : decode cX1_kind 230 = .ok (.invokestatic 7, 3) := by decide +kernel
theorem dX1_kind_233 : decode cX1_kind 233 = .ok (.ifCond .le 7, 3) := by decide +kernel
theorem dX1_kind_236 : decode cX1_kind 236 = .ok (.iconst 0, 1) := by decide +kernel
theorem dX1_kind_237 : decode cX1_kind 237 = .ok (.goto 7, 3) := by decide +kernel
theorem dX1_kind_240 : decode cX1_kind 240 = .ok (.iload_n 1, 1) := by decide +kernel
theorem dX1_kind_241 : decode cX1_kind 241 = .ok (.invokestatic 17, 3) := by decide +kernel
theorem dX1_kind_244 : decode cX1_kind 244 = .ok (.ireturn, 1) := by decide +kernel
theorem dX1_kind_245 : decode cX1_kind 245 = .ok (.iload_n 1, 1) := by decide +kernel
theorem dX1_kind_246 : decode cX1_kind 246 = .ok (.bipush 21, 2) := by decide +kernel
theorem dX1_kind_248 : decode cX1_kind 248 = .ok (.bipush 23, 2) := by decide +kernel
theorem dX1_kind_250 : decode cX1_kind 250 = .ok (.invokestatic 7, 3) := by decide +kernel
theorem dX1_kind_253 : decode cX1_kind 253 = .ok (.ifCond .ne 19, 3) := by decide +kernel
theorem dX1_kind_256 : decode cX1_kind 256 = .ok (.iload_n 1, 1) := by decide +kernel
theorem dX1_kind_257 : decode cX1_kind 257 = .ok (.bipush 29, 2) := by decide +kernel
theorem dX1_kind_259 : decode cX1_kind 259 = .ok (.bipush 30, 2) := by decide +kernel
theorem dX1_kind_261 : decode cX1_kind 261 = .ok (.invokestatic 7, 3) := by decide +kernel
theorem dX1_kind_264 : decode cX1_kind 264 = .ok (.ifCond .ne 8, 3) := by decide +kernel
theorem dX1_kind_267 : decode cX1_kind 267 = .ok (.bipush 6, 2) := by decide +kernel
theorem dX1_kind_269 : decode cX1_kind 269 = .ok (.goto 4, 3) := by decide +kernel
theorem dX1_kind_272 : decode cX1_kind 272 = .ok (.iconst 0, 1) := by decide +kernel
theorem dX1_kind_273 : decode cX1_kind 273 = .ok (.ireturn, 1) := by decide +kernel
theorem dX1_kind_274 : decode cX1_kind 274 = .ok (.iload_n 1, 1) := by decide +kernel
theorem dX1_kind_275 : decode cX1_kind 275 = .ok (.bipush 29, 2) := by decide +kernel
theorem dX1_kind_277 : decode cX1_kind 277 = .ok (.bipush 29, 2) := by decide +kernel
theorem dX1_kind_279 : decode cX1_kind 279 = .ok (.invokestatic 7, 3) := by decide +kernel
theorem dX1_kind_282 : decode cX1_kind 282 = .ok (.iconst 1, 1) := by decide +kernel
theorem dX1_kind_283 : decode cX1_kind 283 = .ok (.if_icmp .ne 22, 3) := by decide +kernel
theorem dX1_kind_286 : decode cX1_kind 286 = .ok (.iload_n 1, 1) := by decide +kernel
theorem dX1_kind_287 : decode cX1_kind 287 = .ok (.invokestatic 21, 3) := by decide +kernel
theorem dX1_kind_290 : decode cX1_kind 290 = .ok (.ifCond .eq 15, 3) := by decide +kernel
theorem dX1_kind_293 : decode cX1_kind 293 = .ok (.iload_n 1, 1) := by decide +kernel
theorem dX1_kind_294 : decode cX1_kind 294 = .ok (.invokestatic 24, 3) := by decide +kernel
theorem dX1_kind_297 : decode cX1_kind 297 = .ok (.ifCond .eq 8, 3) := by decide +kernel
theorem dX1_kind_300 : decode cX1_kind 300 = .ok (.bipush 10, 2) := by decide +kernel
theorem dX1_kind_302 : decode cX1_kind 302 = .ok (.goto 4, 3) := by decide +kernel
theorem dX1_kind_305 : decode cX1_kind 305 = .ok (.iconst 0, 1) := by decide +kernel
theorem dX1_kind_306 : decode cX1_kind 306 = .ok (.ireturn, 1) := by decide +kernel
theorem dX1_kind_307 : decode cX1_kind 307 = .ok (.iload_n 1, 1) := by decide +kernel
theorem dX1_kind_308 : decode cX1_kind 308 = .ok (.bipush 29, 2) := by decide +kernel
theorem dX1_kind_310 : decode cX1_kind 310 = .ok (.bipush 29, 2) := by decide +kernel
theorem dX1_kind_312 : decode cX1_kind 312 = .ok (.invokestatic 7, 3) := by decide +kernel
theorem dX1_kind_315 : decode cX1_kind 315 = .ok (.iconst 1, 1) := by decide +kernel
theorem dX1_kind_316 : decode cX1_kind 316 = .ok (.if_icmp .ne 15, 3) := by decide +kernel
theorem dX1_kind_319 : decode cX1_kind 319 = .ok (.iload_n 1, 1) := by decide +kernel
theorem dX1_kind_320 : decode cX1_kind 320 = .ok (.invokestatic 24, 3) := by decide +kernel
theorem dX1_kind_323 : decode cX1_kind 323 = .ok (.ifCond .eq 8, 3) := by decide +kernel
theorem dX1_kind_326 : decode cX1_kind 326 = .ok (.bipush 9, 2) := by decide +kernel
theorem dX1_kind_328 : decode cX1_kind 328 = .ok (.goto 4, 3) := by decide +kernel
theorem dX1_kind_331 : decode cX1_kind 331 = .ok (.iconst 0, 1) := by decide +kernel
theorem dX1_kind_332 : decode cX1_kind 332 = .ok (.ireturn, 1) := by decide +kernel
theorem dX1_kind_333 : decode cX1_kind 333 = .ok (.iload_n 1, 1) := by decide +kernel
theorem dX1_kind_334 : decode cX1_kind 334 = .ok (.bipush 25, 2) := by decide +kernel
theorem dX1_kind_336 : decode cX1_kind 336 = .ok (.bipush 31, 2) := by decide +kernel
theorem dX1_kind_338 : decode cX1_kind 338 = .ok (.invokestatic 7, 3) := by decide +kernel
theorem dX1_kind_341 : decode cX1_kind 341 = .ok (.bipush 84, 2) := by decide +kernel
theorem dX1_kind_343 : decode cX1_kind 343 = .ok (.if_icmp .ne 15, 3) := by decide +kernel
theorem dX1_kind_346 : decode cX1_kind 346 = .ok (.iload_n 1, 1) := by decide +kernel
theorem dX1_kind_347 : decode cX1_kind 347 = .ok (.invokestatic 27, 3) := by decide +kernel
theorem dX1_kind_350 : decode cX1_kind 350 = .ok (.ifCond .eq 8, 3) := by decide +kernel
theorem dX1_kind_353 : decode cX1_kind 353 = .ok (.bipush 11, 2) := by decide +kernel
end
section
theorem dX1_kind_355 : decode cX1_kind 355 = .ok (.goto 4, 3) := by decide +kernel
theorem dX1_kind_358 : decode cX1_kind 358 = .ok (.iconst 0, 1) := by decide +kernel
theorem dX1_kind_359 : decode cX1_kind 359 = .ok (.ireturn, 1) := by decide +kernel
theorem dX1_kind_360 : decode cX1_kind 360 = .ok (.aload_n 0, 1) := by decide +kernel
theorem dX1_kind_361 : decode cX1_kind 361 = .ok (.iload_n 1, 1) := by decide +kernel
theorem dX1_kind_362 : decode cX1_kind 362 = .ok (.invokevirtual 30, 3) := by decide +kernel
theorem dX1_kind_365 : decode cX1_kind 365 = .ok (.ireturn, 1) := by decide +kernel
set_option maxRecDepth 20000 in
theorem ggX1_jumps_X1_bits : GoodIn wsX1_jumps wsX1_bits := goodIn_r _ [5] (by decide +kernel) (by decide +kernel)
set_option maxRecDepth 20000 in
theorem gX1_jumps_X1_bits : GoodIn wsX1_jumps (va_wsS RX1 7 yX1_bits wsX1_bits) := goodIn_app (goodIn_of _ (by decide +kernel)) ggX1_jumps_X1_bits
set_option maxRecDepth 20000 in
theorem ggX1_jumps_X1_goesByRegister : GoodIn wsX1_jumps wsX1_goesByRegister := goodIn_r _ [8, 2, 3, 4, 5] (by decide +kernel) (by decide +kernel)
set_option maxRecDepth 20000 in
theorem gX1_jumps_X1_goesByRegister : GoodIn wsX1_jumps (va_wsS RX1 33 yX1_goesByRegister wsX1_goesByRegister) := goodIn_app (goodIn_of _ (by decide +kernel)) ggX1_jumps_X1_goesByRegister
theorem dX1_jumps_0 : decode cX1_jumps 0 = .ok (.iload_n 1, 1) := by decide +kernel
theorem dX1_jumps_1 : decode cX1_jumps 1 = .ok (.bipush 26, 2) := by decide +kernel
theorem dX1_jumps_3 : decode cX1_jumps 3 = .ok (.bipush 31, 2) := by decide +kernel
theorem dX1_jumps_5 : decode cX1_jumps 5 = .ok (.invokestatic 7, 3) := by decide +kernel
theorem dX1_jumps_8 : decode cX1_jumps 8 = .ok (.istore_n 2, 1) := by decide +kernel
theorem dX1_jumps_9 : decode cX1_jumps 9 = .ok (.iload_n 2, 1) := by decide +kernel
theorem dX1_jumps_10 : decode cX1_jumps 10 = .ok (.iconst 5, 1) := by decide +kernel
theorem dX1_jumps_11 : decode cX1_jumps 11 = .ok (.if_icmp .ne 6, 3) := by decide +kernel
theorem dX1_jumps_14 : decode cX1_jumps 14 = .ok (.bipush 12, 2) := by decide +kernel
theorem dX1_jumps_16 : decode cX1_jumps 16 = .ok (.ireturn, 1) := by decide +kernel
theorem dX1_jumps_17 : decode cX1_jumps 17 = .ok (.iload_n 2, 1) := by decide +kernel
theorem dX1_jumps_18 : decode cX1_jumps 18 = .ok (.bipush 37, 2) := by decide +kernel
theorem dX1_jumps_20 : decode cX1_jumps 20 = .ok (.if_icmp .ne 6, 3) := by decide +kernel
theorem dX1_jumps_23 : decode cX1_jumps 23 = .ok (.bipush 13, 2) := by decide +kernel
theorem dX1_jumps_25 : decode cX1_jumps 25 = .ok (.ireturn, 1) := by decide +kernel
theorem dX1_jumps_26 : decode cX1_jumps 26 = .ok (.iload_n 1, 1) := by decide +kernel
theorem dX1_jumps_27 : decode cX1_jumps 27 = .ok (.bipush 24, 2) := by decide +kernel
theorem dX1_jumps_29 : decode cX1_jumps 29 = .ok (.bipush 31, 2) := by decide +kernel
theorem dX1_jumps_31 : decode cX1_jumps 31 = .ok (.invokestatic 7, 3) := by decide +kernel
theorem dX1_jumps_34 : decode cX1_jumps 34 = .ok (.bipush 84, 2) := by decide +kernel
theorem dX1_jumps_36 : decode cX1_jumps 36 = .ok (.if_icmp .ne 30, 3) := by decide +kernel
theorem dX1_jumps_39 : decode cX1_jumps 39 = .ok (.iload_n 1, 1) := by decide +kernel
theorem dX1_jumps_40 : decode cX1_jumps 40 = .ok (.iconst 4, 1) := by decide +kernel
theorem dX1_jumps_41 : decode cX1_jumps 41 = .ok (.iconst 4, 1) := by decide +kernel
theorem dX1_jumps_42 : decode cX1_jumps 42 = .ok (.invokestatic 7, 3) := by decide +kernel
theorem dX1_jumps_45 : decode cX1_jumps 45 = .ok (.ifCond .ne 19, 3) := by decide +kernel
theorem dX1_jumps_48 : decode cX1_jumps 48 = .ok (.iload_n 1, 1) := by decide +kernel
theorem dX1_jumps_49 : decode cX1_jumps 49 = .ok (.iconst 0, 1) := by decide +kernel
theorem dX1_jumps_50 : decode cX1_jumps 50 = .ok (.iconst 3, 1) := by decide +kernel
theorem dX1_jumps_51 : decode cX1_jumps 51 = .ok (.invokestatic 7, 3) := by decide +kernel
theorem dX1_jumps_54 : decode cX1_jumps 54 = .ok (.bipush 14, 2) := by decide +kernel
theorem dX1_jumps_56 : decode cX1_jumps 56 = .ok (.if_icmp .ge 8, 3) := by decide +kernel
theorem dX1_jumps_59 : decode cX1_jumps 59 = .ok (.bipush 14, 2) := by decide +kernel
theorem dX1_jumps_61 : decode cX1_jumps 61 = .ok (.goto 4, 3) := by decide +kernel
theorem dX1_jumps_64 : decode cX1_jumps 64 = .ok (.iconst 0, 1) := by decide +kernel
theorem dX1_jumps_65 : decode cX1_jumps 65 = .ok (.ireturn, 1) := by decide +kernel
theorem dX1_jumps_66 : decode cX1_jumps 66 = .ok (.iload_n 1, 1) := by decide +kernel
theorem dX1_jumps_67 : decode cX1_jumps 67 = .ok (.bipush 25, 2) := by decide +kernel
theorem dX1_jumps_69 : decode cX1_jumps 69 = .ok (.bipush 30, 2) := by decide +kernel
theorem dX1_jumps_71 : decode cX1_jumps 71 = .ok (.invokestatic 7, 3) := by decide +kernel
theorem dX1_jumps_74 : decode cX1_jumps 74 = .ok (.istore_n 3, 1) := by decide +kernel
theorem dX1_jumps_75 : decode cX1_jumps 75 = .ok (.iload_n 3, 1) := by decide +kernel
theorem dX1_jumps_76 : decode cX1_jumps 76 = .ok (.bipush 26, 2) := by decide +kernel
theorem dX1_jumps_78 : decode cX1_jumps 78 = .ok (.if_icmp .ne 6, 3) := by decide +kernel
theorem dX1_jumps_81 : decode cX1_jumps 81 = .ok (.bipush 15, 2) := by decide +kernel
theorem dX1_jumps_83 : decode cX1_jumps 83 = .ok (.ireturn, 1) := by decide +kernel
theorem dX1_jumps_84 : decode cX1_jumps 84 = .ok (.iload_n 3, 1) := by decide +kernel
theorem dX1_jumps_85 : decode cX1_jumps 85 = .ok (.bipush 27, 2) := by decide +kernel
theorem dX1_jumps_87 : decode cX1_jumps 87 = .ok (.if_icmp .ne 6, 3) := by decide +kernel
theorem dX1_jumps_90 : decode cX1_jumps 90 = .ok (.bipush 16, 2) := by decide +kernel
theorem dX1_jumps_92 : decode cX1_jumps 92 = .ok (.ireturn, 1) := by decide +kernel
theorem dX1_jumps_93 : decode cX1_jumps 93 = .ok (.iload_n 1, 1) := by decide +kernel
theorem dX1_jumps_94 : decode cX1_jumps 94 = .ok (.bipush 24, 2) := by decide +kernel
theorem dX1_jumps_96 : decode cX1_jumps 96 = .ok (.bipush 31, 2) := by decide +kernel
theorem dX1_jumps_98 : decode cX1_jumps 98 = .ok (.invokestatic 7, 3) := by decide +kernel
theorem dX1_jumps_101 : decode cX1_jumps 101 = .ok (.sipush 214, 3) := by decide +kernel
theorem dX1_jumps_104 : decode cX1_jumps 104 = .ok (.if_icmp .ne 8, 3) := by decide +kernel
theorem dX1_jumps_107 : decode cX1_jumps 107 = .ok (.iload_n 1, 1) := by decide +kernel
theorem dX1_jumps_108 : decode cX1_jumps 108 = .ok (.invokestatic 33, 3) := by decide +kernel
theorem dX1_jumps_111 : decode cX1_jumps 111 = .ok (.ireturn, 1) := by decide +kernel
theorem dX1_jumps_112 : decode cX1_jumps 112 = .ok (.iload_n 1, 1) := by decide +kernel
theorem dX1_jumps_113 : decode cX1_jumps 113 = .ok (.bipush 21, 2) := by decide +kernel
theorem dX1_jumps_115 : decode cX1_jumps 115 = .ok (.bipush 31, 2) := by decide +kernel
theorem dX1_jumps_117 : decode cX1_jumps 117 = .ok (.invokestatic 7, 3) := by decide +kernel
theorem dX1_jumps_120 : decode cX1_jumps 120 = .ok (.sipush 1696, 3) := by decide +kernel
theorem dX1_jumps_123 : decode cX1_jumps 123 = .ok (.if_icmp .ne 16, 3) := by decide +kernel
theorem dX1_jumps_126 : decode cX1_jumps 126 = .ok (.iload_n 1, 1) := by decide +kernel
theorem dX1_jumps_127 : decode cX1_jumps 127 = .ok (.iconst 0, 1) := by decide +kernel
theorem dX1_jumps_128 : decode cX1_jumps 128 = .ok (.iconst 4, 1) := by decide +kernel
theorem dX1_jumps_129 : decode cX1_jumps 129 = .ok (.invokestatic 7, 3) := by decide +kernel
theorem dX1_jumps_132 : decode cX1_jumps 132 = .ok (.iconst 1, 1) := by decide +kernel
theorem dX1_jumps_133 : decode cX1_jumps 133 = .ok (.if_icmp .ne 6, 3) := by decide +kernel
theorem dX1_jumps_136 : decode cX1_jumps 136 = .ok (.bipush 20, 2) := by decide +kernel
theorem dX1_jumps_138 : decode cX1_jumps 138 = .ok (.ireturn, 1) := by decide +kernel
theorem dX1_jumps_139 : decode cX1_jumps 139 = .ok (.iload_n 1, 1) := by decide +kernel
theorem dX1_jumps_140 : decode cX1_jumps 140 = .ok (.ldc 36, 2) := by decide +kernel
theorem dX1_jumps_142 : decode cX1_jumps 142 = .ok (.if_icmp .ne 8, 3) := by decide +kernel
theorem dX1_jumps_145 : decode cX1_jumps 145 = .ok (.bipush 21, 2) := by decide +kernel
theorem dX1_jumps_147 : decode cX1_jumps 147 = .ok (.goto 4, 3) := by decide +kernel
theorem dX1_jumps_150 : decode cX1_jumps 150 = .ok (.iconst 0, 1) := by decide +kernel
theorem dX1_jumps_151 : decode cX1_jumps 151 = .ok (.ireturn, 1) := by decide +kernel
set_option maxRecDepth 20000 in
theorem ggX1_goesByRegister_X1_bits : GoodIn wsX1_goesByRegister wsX1_bits := goodIn_r _ [4] (by decide +kernel) (by decide +kernel)
set_option maxRecDepth 20000 in
theorem gX1_goesByRegister_X1_bits : GoodIn wsX1_goesByRegister (va_wsS RX1 7 yX1_bits wsX1_bits) := goodIn_app (goodIn_of _ (by decide +kernel)) ggX1_goesByRegister_X1_bits
theorem dX1_goesByRegister_0 : decode cX1_goesByRegister 0 = .ok (.iload_n 0, 1) := by decide +kernel
theorem dX1_goesByRegister_1 : decode cX1_goesByRegister 1 = .ok (.iconst 0, 1) := by decide +kernel
theorem dX1_goesByRegister_2 : decode cX1_goesByRegister 2 = .ok (.iconst 4, 1) := by decide +kernel
theorem dX1_goesByRegister_3 : decode cX1_goesByRegister 3 = .ok (.invokestatic 7, 3) := by decide +kernel
theorem dX1_goesByRegister_6 : decode cX1_goesByRegister 6 = .ok (.ifCond .gt 27, 3) := by decide +kernel
theorem dX1_goesByRegister_9 : decode cX1_goesByRegister 9 = .ok (.iload_n 0, 1) := by decide +kernel
theorem dX1_goesByRegister_10 : decode cX1_goesByRegister 10 = .ok (.bipush 10, 2) := by decide +kernel
theorem dX1_goesByRegister_12 : decode cX1_goesByRegister 12 = .ok (.bipush 15, 2) := by decide +kernel
theorem dX1_goesByRegister_14 : decode cX1_goesByRegister 14 = .ok (.invokestatic 7, 3) := by decide +kernel
theorem dX1_goesByRegister_17 : decode cX1_goesByRegister 17 = .ok (.ifCond .gt 16, 3) := by decide +kernel
theorem dX1_goesByRegister_20 : decode cX1_goesByRegister 20 = .ok (.iload_n 0, 1) := by decide +kernel
theorem dX1_goesByRegister_21 : decode cX1_goesByRegister 21 = .ok (.bipush 16, 2) := by decide +kernel
theorem dX1_goesByRegister_23 : decode cX1_goesByRegister 23 = .ok (.bipush 20, 2) := by decide +kernel
theorem dX1_goesByRegister_25 : decode cX1_goesByRegister 25 = .ok (.invokestatic 7, 3) := by decide +kernel
theorem dX1_goesByRegister_28 : decode cX1_goesByRegister 28 = .ok (.bipush 31, 2) := by decide +kernel
theorem dX1_goesByRegister_30 : decode cX1_goesByRegister 30 = .ok (.if_icmp .eq 5, 3) := by decide +kernel
theorem dX1_goesByRegister_33 : decode cX1_goesByRegister 33 = .ok (.iconst 0, 1) := by decide +kernel
theorem dX1_goesByRegister_34 : decode cX1_goesByRegister 34 = .ok (.ireturn, 1) := by decide +kernel
theorem dX1_goesByRegister_35 : decode cX1_goesByRegister 35 = .ok (.iload_n 0, 1) := by decide +kernel
theorem dX1_goesByRegister_36 : decode cX1_goesByRegister 36 = .ok (.bipush 21, 2) := by decide +kernel
theorem dX1_goesByRegister_38 : decode cX1_goesByRegister 38 = .ok (.bipush 23, 2) := by decide +kernel
theorem dX1_goesByRegister_40 : decode cX1_goesByRegister 40 = .ok (.invokestatic 7, 3) := by decide +kernel
theorem dX1_goesByRegister_43 : decode cX1_goesByRegister 43 = .ok (.istore_n 1, 1) := by decide +kernel
theorem dX1_goesByRegister_44 : decode cX1_goesByRegister 44 = .ok (.iload_n 1, 1) := by decide +kernel
theorem dX1_goesByRegister_45 : decode cX1_goesByRegister 45 = .ok (.iconst 3, 1) := by decide +kernel
theorem dX1_goesByRegister_46 : decode cX1_goesByRegister 46 = .ok (.if_icmp .ge 10, 3) := by decide +kernel
theorem dX1_goesByRegister_49 : decode cX1_goesByRegister 49 = .ok (.bipush 17, 2) := by decide +kernel
theorem dX1_goesByRegister_51 : decode cX1_goesByRegister 51 = .ok (.iload_n 1, 1) := by decide +kernel
theorem dX1_goesByRegister_52 : decode cX1_goesByRegister 52 = .ok (.iadd, 1) := by decide +kernel
theorem dX1_goesByRegister_53 : decode cX1_goesByRegister 53 = .ok (.goto 4, 3) := by decide +kernel
theorem dX1_goesByRegister_56 : decode cX1_goesByRegister 56 = .ok (.iconst 0, 1) := by decide +kernel
theorem dX1_goesByRegister_57 : decode cX1_goesByRegister 57 = .ok (.ireturn, 1) := by decide +kernel
set_option maxRecDepth 20000 in
theorem ggX1_isMoved_X1_bits : GoodIn wsX1_isMoved wsX1_bits := goodIn_r _ [4] (by decide +kernel) (by decide +kernel)
set_option maxRecDepth 20000 in
theorem gX1_isMoved_X1_bits : GoodIn wsX1_isMoved (va_wsS RX1 7 yX1_bits wsX1_bits) := goodIn_app (goodIn_of _ (by decide +kernel)) ggX1_isMoved_X1_bits
theorem dX1_isMoved_0 : decode cX1_isMoved 0 = .ok (.iload_n 0, 1) := by decide +kernel
theorem dX1_isMoved_1 : decode cX1_isMoved 1 = .ok (.ifCond .lt 14, 3) := by decide +kernel
theorem dX1_isMoved_4 : decode cX1_isMoved 4 = .ok (.iload_n 0, 1) := by decide +kernel
theorem dX1_isMoved_5 : decode cX1_isMoved 5 = .ok (.bipush 15, 2) := by decide +kernel
theorem dX1_isMoved_7 : decode cX1_isMoved 7 = .ok (.bipush 15, 2) := by decide +kernel
theorem dX1_isMoved_9 : decode cX1_isMoved 9 = .ok (.invokestatic 7, 3) := by decide +kernel
theorem dX1_isMoved_12 : decode cX1_isMoved 12 = .ok (.ifCond .ne 7, 3) := by decide +kernel
theorem dX1_isMoved_15 : decode cX1_isMoved 15 = .ok (.iconst 1, 1) := by decide +kernel
theorem dX1_isMoved_16 : decode cX1_isMoved 16 = .ok (.goto 4, 3) := by decide +kernel
theorem dX1_isMoved_19 : decode cX1_isMoved 19 = .ok (.iconst 0, 1) := by decide +kernel
theorem dX1_isMoved_20 : decode cX1_isMoved 20 = .ok (.ireturn, 1) := by decide +kernel
set_option maxRecDepth 20000 in
theorem ggX1_inTwo_X1_bits : GoodIn wsX1_inTwo wsX1_bits := goodIn_r _ [4] (by decide +kernel) (by decide +kernel)
set_option maxRecDepth 20000 in
theorem gX1_inTwo_X1_bits : GoodIn wsX1_inTwo (va_wsS RX1 7 yX1_bits wsX1_bits) := goodIn_app (goodIn_of _ (by decide +kernel)) ggX1_inTwo_X1_bits
theorem dX1_inTwo_0 : decode cX1_inTwo 0 = .ok (.iload_n 0, 1) := by decide +kernel
theorem dX1_inTwo_1 : decode cX1_inTwo 1 = .ok (.bipush 21, 2) := by decide +kernel
theorem dX1_inTwo_3 : decode cX1_inTwo 3 = .ok (.bipush 23, 2) := by decide +kernel
theorem dX1_inTwo_5 : decode cX1_inTwo 5 = .ok (.invokestatic 7, 3) := by decide +kernel
theorem dX1_inTwo_8 : decode cX1_inTwo 8 = .ok (.istore_n 1, 1) := by decide +kernel
theorem dX1_inTwo_9 : decode cX1_inTwo 9 = .ok (.iload_n 0, 1) := by decide +kernel
theorem dX1_inTwo_10 : decode cX1_inTwo 10 = .ok (.bipush 10, 2) := by decide +kernel
theorem dX1_inTwo_12 : decode cX1_inTwo 12 = .ok (.bipush 15, 2) := by decide +kernel
theorem dX1_inTwo_14 : decode cX1_inTwo 14 = .ok (.invokestatic 7, 3) := by decide +kernel
theorem dX1_inTwo_17 : decode cX1_inTwo 17 = .ok (.istore_n 2, 1) := by decide +kernel
theorem dX1_inTwo_18 : decode cX1_inTwo 18 = .ok (.iload_n 1, 1) := by decide +kernel
theorem dX1_inTwo_19 : decode cX1_inTwo 19 = .ok (.bipush 6, 2) := by decide +kernel
theorem dX1_inTwo_21 : decode cX1_inTwo 21 = .ok (.if_icmp .ne 32, 3) := by decide +kernel
theorem dX1_inTwo_24 : decode cX1_inTwo 24 = .ok (.iload_n 2, 1) := by decide +kernel
theorem dX1_inTwo_25 : decode cX1_inTwo 25 = .ok (.iconst 2, 1) := by decide +kernel
theorem dX1_inTwo_26 : decode cX1_inTwo 26 = .ok (.if_icmp .eq 20, 3) := by decide +kernel
theorem dX1_inTwo_29 : decode cX1_inTwo 29 = .ok (.iload_n 2, 1) := by decide +kernel
theorem dX1_inTwo_30 : decode cX1_inTwo 30 = .ok (.iconst 3, 1) := by decide +kernel
theorem dX1_inTwo_31 : decode cX1_inTwo 31 = .ok (.if_icmp .eq 15, 3) := by decide +kernel
theorem dX1_inTwo_34 : decode cX1_inTwo 34 = .ok (.iload_n 2, 1) := by decide +kernel
theorem dX1_inTwo_35 : decode cX1_inTwo 35 = .ok (.bipush 7, 2) := by decide +kernel
theorem dX1_inTwo_37 : decode cX1_inTwo 37 = .ok (.if_icmp .le 14, 3) := by decide +kernel
theorem dX1_inTwo_40 : decode cX1_inTwo 40 = .ok (.iload_n 2, 1) := by decide +kernel
theorem dX1_inTwo_41 : decode cX1_inTwo 41 = .ok (.bipush 11, 2) := by decide +kernel
theorem dX1_inTwo_43 : decode cX1_inTwo 43 = .ok (.if_icmp .ge 8, 3) := by decide +kernel
theorem dX1_inTwo_46 : decode cX1_inTwo 46 = .ok (.bipush 7, 2) := by decide +kernel
theorem dX1_inTwo_48 : decode cX1_inTwo 48 = .ok (.goto 4, 3) := by decide +kernel
theorem dX1_inTwo_51 : decode cX1_inTwo 51 = .ok (.iconst 0, 1) := by decide +kernel
theorem dX1_inTwo_52 : decode cX1_inTwo 52 = .ok (.ireturn, 1) := by decide +kernel
theorem dX1_inTwo_53 : decode cX1_inTwo 53 = .ok (.iload_n 1, 1) := by decide +kernel
theorem dX1_inTwo_54 : decode cX1_inTwo 54 = .ok (.iconst 4, 1) := by decide +kernel
theorem dX1_inTwo_55 : decode cX1_inTwo 55 = .ok (.if_icmp .ne 31, 3) := by decide +kernel
theorem dX1_inTwo_58 : decode cX1_inTwo 58 = .ok (.iload_n 0, 1) := by decide +kernel
theorem dX1_inTwo_59 : decode cX1_inTwo 59 = .ok (.bipush 11, 2) := by decide +kernel
theorem dX1_inTwo_61 : decode cX1_inTwo 61 = .ok (.bipush 11, 2) := by decide +kernel
theorem dX1_inTwo_63 : decode cX1_inTwo 63 = .ok (.invokestatic 7, 3) := by decide +kernel
theorem dX1_inTwo_66 : decode cX1_inTwo 66 = .ok (.ifCond .ne 20, 3) := by decide +kernel
theorem dX1_inTwo_69 : decode cX1_inTwo 69 = .ok (.iload_n 0, 1) := by decide +kernel
theorem dX1_inTwo_70 : decode cX1_inTwo 70 = .ok (.bipush 12, 2) := by decide +kernel
theorem dX1_inTwo_72 : decode cX1_inTwo 72 = .ok (.bipush 15, 2) := by decide +kernel
theorem dX1_inTwo_74 : decode cX1_inTwo 74 = .ok (.invokestatic 7, 3) := by decide +kernel
theorem dX1_inTwo_77 : decode cX1_inTwo 77 = .ok (.bipush 14, 2) := by decide +kernel
theorem dX1_inTwo_79 : decode cX1_inTwo 79 = .ok (.if_icmp .ge 7, 3) := by decide +kernel
theorem dX1_inTwo_82 : decode cX1_inTwo 82 = .ok (.iconst 1, 1) := by decide +kernel
theorem dX1_inTwo_83 : decode cX1_inTwo 83 = .ok (.goto 4, 3) := by decide +kernel
theorem dX1_inTwo_86 : decode cX1_inTwo 86 = .ok (.iconst 0, 1) := by decide +kernel
theorem dX1_inTwo_87 : decode cX1_inTwo 87 = .ok (.istore_n 3, 1) := by decide +kernel
theorem dX1_inTwo_88 : decode cX1_inTwo 88 = .ok (.iload_n 3, 1) := by decide +kernel
theorem dX1_inTwo_89 : decode cX1_inTwo 89 = .ok (.ifCond .eq 8, 3) := by decide +kernel
theorem dX1_inTwo_92 : decode cX1_inTwo 92 = .ok (.bipush 8, 2) := by decide +kernel
theorem dX1_inTwo_94 : decode cX1_inTwo 94 = .ok (.goto 4, 3) := by decide +kernel
theorem dX1_inTwo_97 : decode cX1_inTwo 97 = .ok (.iconst 0, 1) := by decide +kernel
theorem dX1_inTwo_98 : decode cX1_inTwo 98 = .ok (.ireturn, 1) := by decide +kernel
set_option maxRecDepth 20000 in
theorem ggX1_isByRegister_X1_bits : GoodIn wsX1_isByRegister wsX1_bits := goodIn_r _ [4] (by decide +kernel) (by decide +kernel)
set_option maxRecDepth 20000 in
theorem gX1_isByRegister_X1_bits : GoodIn wsX1_isByRegister (va_wsS RX1 7 yX1_bits wsX1_bits) := goodIn_app (goodIn_of _ (by decide +kernel)) ggX1_isByRegister_X1_bits
theorem dX1_isByRegister_0 : decode cX1_isByRegister 0 = .ok (.iload_n 0, 1) := by decide +kernel
theorem dX1_isByRegister_1 : decode cX1_isByRegister 1 = .ok (.bipush 21, 2) := by decide +kernel
theorem dX1_isByRegister_3 : decode cX1_isByRegister 3 = .ok (.bipush 21, 2) := by decide +kernel
theorem dX1_isByRegister_5 : decode cX1_isByRegister 5 = .ok (.invokestatic 7, 3) := by decide +kernel
theorem dX1_isByRegister_8 : decode cX1_isByRegister 8 = .ok (.iconst 1, 1) := by decide +kernel
theorem dX1_isByRegister_9 : decode cX1_isByRegister 9 = .ok (.if_icmp .ne 31, 3) := by decide +kernel
theorem dX1_isByRegister_12 : decode cX1_isByRegister 12 = .ok (.iload_n 0, 1) := by decide +kernel
theorem dX1_isByRegister_13 : decode cX1_isByRegister 13 = .ok (.bipush 13, 2) := by decide +kernel
theorem dX1_isByRegister_15 : decode cX1_isByRegister 15 = .ok (.bipush 15, 2) := by decide +kernel
theorem dX1_isByRegister_17 : decode cX1_isByRegister 17 = .ok (.invokestatic 7, 3) := by decide +kernel
theorem dX1_isByRegister_20 : decode cX1_isByRegister 20 = .ok (.iconst 3, 1) := by decide +kernel
theorem dX1_isByRegister_21 : decode cX1_isByRegister 21 = .ok (.if_icmp .ne 19, 3) := by decide +kernel
theorem dX1_isByRegister_24 : decode cX1_isByRegister 24 = .ok (.iload_n 0, 1) := by decide +kernel
theorem dX1_isByRegister_25 : decode cX1_isByRegister 25 = .ok (.bipush 10, 2) := by decide +kernel
theorem dX1_isByRegister_27 : decode cX1_isByRegister 27 = .ok (.bipush 11, 2) := by decide +kernel
theorem dX1_isByRegister_29 : decode cX1_isByRegister 29 = .ok (.invokestatic 7, 3) := by decide +kernel
theorem dX1_isByRegister_32 : decode cX1_isByRegister 32 = .ok (.iconst 2, 1) := by decide +kernel
theorem dX1_isByRegister_33 : decode cX1_isByRegister 33 = .ok (.if_icmp .ne 7, 3) := by decide +kernel
theorem dX1_isByRegister_36 : decode cX1_isByRegister 36 = .ok (.iconst 1, 1) := by decide +kernel
theorem dX1_isByRegister_37 : decode cX1_isByRegister 37 = .ok (.goto 4, 3) := by decide +kernel
theorem dX1_isByRegister_40 : decode cX1_isByRegister 40 = .ok (.iconst 0, 1) := by decide +kernel
theorem dX1_isByRegister_41 : decode cX1_isByRegister 41 = .ok (.ireturn, 1) := by decide +kernel
set_option maxRecDepth 20000 in
theorem ggX1_isSize_X1_bits : GoodIn wsX1_isSize wsX1_bits := goodIn_r _ [4] (by decide +kernel) (by decide +kernel)
set_option maxRecDepth 20000 in
theorem gX1_isSize_X1_bits : GoodIn wsX1_isSize (va_wsS RX1 7 yX1_bits wsX1_bits) := goodIn_app (goodIn_of _ (by decide +kernel)) ggX1_isSize_X1_bits
theorem dX1_isSize_0 : decode cX1_isSize 0 = .ok (.iload_n 0, 1) := by decide +kernel
theorem dX1_isSize_1 : decode cX1_isSize 1 = .ok (.bipush 30, 2) := by decide +kernel
theorem dX1_isSize_3 : decode cX1_isSize 3 = .ok (.bipush 31, 2) := by decide +kernel
theorem dX1_isSize_5 : decode cX1_isSize 5 = .ok (.invokestatic 7, 3) := by decide +kernel
theorem dX1_isSize_8 : decode cX1_isSize 8 = .ok (.istore_n 1, 1) := by decide +kernel
theorem dX1_isSize_9 : decode cX1_isSize 9 = .ok (.iload_n 0, 1) := by decide +kernel
theorem dX1_isSize_10 : decode cX1_isSize 10 = .ok (.bipush 22, 2) := by decide +kernel
theorem dX1_isSize_12 : decode cX1_isSize 12 = .ok (.bipush 23, 2) := by decide +kernel
theorem dX1_isSize_14 : decode cX1_isSize 14 = .ok (.invokestatic 7, 3) := by decide +kernel
theorem dX1_isSize_17 : decode cX1_isSize 17 = .ok (.istore_n 2, 1) := by decide +kernel
theorem dX1_isSize_18 : decode cX1_isSize 18 = .ok (.iload_n 1, 1) := by decide +kernel
theorem dX1_isSize_19 : decode cX1_isSize 19 = .ok (.iconst 1, 1) := by decide +kernel
theorem dX1_isSize_20 : decode cX1_isSize 20 = .ok (.if_icmp .eq 22, 3) := by decide +kernel
theorem dX1_isSize_23 : decode cX1_isSize 23 = .ok (.iload_n 2, 1) := by decide +kernel
theorem dX1_isSize_24 : decode cX1_isSize 24 = .ok (.iconst 2, 1) := by decide +kernel
theorem dX1_isSize_25 : decode cX1_isSize 25 = .ok (.if_icmp .lt 13, 3) := by decide +kernel
theorem dX1_isSize_28 : decode cX1_isSize 28 = .ok (.iload_n 2, 1) := by decide +kernel
theorem dX1_isSize_29 : decode cX1_isSize 29 = .ok (.iconst 2, 1) := by decide +kernel
theorem dX1_isSize_30 : decode cX1_isSize 30 = .ok (.if_icmp .ne 12, 3) := by decide +kernel
theorem dX1_isSize_33 : decode cX1_isSize 33 = .ok (.iload_n 1, 1) := by decide +kernel
theorem dX1_isSize_34 : decode cX1_isSize 34 = .ok (.iconst 2, 1) := by decide +kernel
theorem dX1_isSize_35 : decode cX1_isSize 35 = .ok (.if_icmp .ne 7, 3) := by decide +kernel
theorem dX1_isSize_38 : decode cX1_isSize 38 = .ok (.iconst 1, 1) := by decide +kernel
theorem dX1_isSize_39 : decode cX1_isSize 39 = .ok (.goto 4, 3) := by decide +kernel
theorem dX1_isSize_42 : decode cX1_isSize 42 = .ok (.iconst 0, 1) := by decide +kernel
theorem dX1_isSize_43 : decode cX1_isSize 43 = .ok (.ireturn, 1) := by decide +kernel
set_option maxRecDepth 20000 in
theorem ggX1_isPair_X1_bits : GoodIn wsX1_isPair wsX1_bits := goodIn_r _ [4] (by decide +kernel) (by decide +kernel)
set_option maxRecDepth 20000 in
theorem gX1_isPair_X1_bits : GoodIn wsX1_isPair (va_wsS RX1 7 yX1_bits wsX1_bits) := goodIn_app (goodIn_of _ (by decide +kernel)) ggX1_isPair_X1_bits
theorem dX1_isPair_0 : decode cX1_isPair 0 = .ok (.iload_n 0, 1) := by decide +kernel
theorem dX1_isPair_1 : decode cX1_isPair 1 = .ok (.bipush 23, 2) := by decide +kernel
theorem dX1_isPair_3 : decode cX1_isPair 3 = .ok (.bipush 24, 2) := by decide +kernel
theorem dX1_isPair_5 : decode cX1_isPair 5 = .ok (.invokestatic 7, 3) := by decide +kernel
theorem dX1_isPair_8 : decode cX1_isPair 8 = .ok (.istore_n 1, 1) := by decide +kernel
theorem dX1_isPair_9 : decode cX1_isPair 9 = .ok (.iload_n 0, 1) := by decide +kernel
theorem dX1_isPair_10 : decode cX1_isPair 10 = .ok (.iconst 5, 1) := by decide +kernel
theorem dX1_isPair_11 : decode cX1_isPair 11 = .ok (.bipush 9, 2) := by decide +kernel
theorem dX1_isPair_13 : decode cX1_isPair 13 = .ok (.invokestatic 7, 3) := by decide +kernel
theorem dX1_isPair_16 : decode cX1_isPair 16 = .ok (.istore_n 2, 1) := by decide +kernel
theorem dX1_isPair_17 : decode cX1_isPair 17 = .ok (.iload_n 1, 1) := by decide +kernel
theorem dX1_isPair_18 : decode cX1_isPair 18 = .ok (.iconst 2, 1) := by decide +kernel
theorem dX1_isPair_19 : decode cX1_isPair 19 = .ok (.if_icmp .eq 13, 3) := by decide +kernel
theorem dX1_isPair_22 : decode cX1_isPair 22 = .ok (.iload_n 2, 1) := by decide +kernel
theorem dX1_isPair_23 : decode cX1_isPair 23 = .ok (.bipush 31, 2) := by decide +kernel
theorem dX1_isPair_25 : decode cX1_isPair 25 = .ok (.if_icmp .eq 7, 3) := by decide +kernel
theorem dX1_isPair_28 : decode cX1_isPair 28 = .ok (.iconst 1, 1) := by decide +kernel
theorem dX1_isPair_29 : decode cX1_isPair 29 = .ok (.goto 4, 3) := by decide +kernel
theorem dX1_isPair_32 : decode cX1_isPair 32 = .ok (.iconst 0, 1) := by decide +kernel
theorem dX1_isPair_33 : decode cX1_isPair 33 = .ok (.istore_n 3, 1) := by decide +kernel
theorem dX1_isPair_34 : decode cX1_isPair 34 = .ok (.iload_n 1, 1) := by decide +kernel
theorem dX1_isPair_35 : decode cX1_isPair 35 = .ok (.ifCond .eq 29, 3) := by decide +kernel
theorem dX1_isPair_38 : decode cX1_isPair 38 = .ok (.iload_n 3, 1) := by decide +kernel
theorem dX1_isPair_39 : decode cX1_isPair 39 = .ok (.ifCond .eq 27, 3) := by decide +kernel
theorem dX1_isPair_42 : decode cX1_isPair 42 = .ok (.iload_n 2, 1) := by decide +kernel
theorem dX1_isPair_43 : decode cX1_isPair 43 = .ok (.iload_n 0, 1) := by decide +kernel
theorem dX1_isPair_44 : decode cX1_isPair 44 = .ok (.iconst 0, 1) := by decide +kernel
theorem dX1_isPair_45 : decode cX1_isPair 45 = .ok (.iconst 4, 1) := by decide +kernel
theorem dX1_isPair_46 : decode cX1_isPair 46 = .ok (.invokestatic 7, 3) := by decide +kernel
theorem dX1_isPair_49 : decode cX1_isPair 49 = .ok (.if_icmp .eq 15, 3) := by decide +kernel
theorem dX1_isPair_52 : decode cX1_isPair 52 = .ok (.iload_n 2, 1) := by decide +kernel
theorem dX1_isPair_53 : decode cX1_isPair 53 = .ok (.iload_n 0, 1) := by decide +kernel
theorem dX1_isPair_54 : decode cX1_isPair 54 = .ok (.bipush 10, 2) := by decide +kernel
theorem dX1_isPair_56 : decode cX1_isPair 56 = .ok (.bipush 14, 2) := by decide +kernel
theorem dX1_isPair_58 : decode cX1_isPair 58 = .ok (.invokestatic 7, 3) := by decide +kernel
theorem dX1_isPair_61 : decode cX1_isPair 61 = .ok (.if_icmp .ne 5, 3) := by decide +kernel
theorem dX1_isPair_64 : decode cX1_isPair 64 = .ok (.iconst 0, 1) := by decide +kernel
theorem dX1_isPair_65 : decode cX1_isPair 65 = .ok (.ireturn, 1) := by decide +kernel
theorem dX1_isPair_66 : decode cX1_isPair 66 = .ok (.iload_n 0, 1) := by decide +kernel
theorem dX1_isPair_67 : decode cX1_isPair 67 = .ok (.bipush 22, 2) := by decide +kernel
theorem dX1_isPair_69 : decode cX1_isPair 69 = .ok (.bipush 22, 2) := by decide +kernel
theorem dX1_isPair_71 : decode cX1_isPair 71 = .ok (.invokestatic 7, 3) := by decide +kernel
theorem dX1_isPair_74 : decode cX1_isPair 74 = .ok (.ifCond .eq 20, 3) := by decide +kernel
theorem dX1_isPair_77 : decode cX1_isPair 77 = .ok (.iload_n 0, 1) := by decide +kernel
theorem dX1_isPair_78 : decode cX1_isPair 78 = .ok (.iconst 0, 1) := by decide +kernel
theorem dX1_isPair_79 : decode cX1_isPair 79 = .ok (.iconst 4, 1) := by decide +kernel
theorem dX1_isPair_80 : decode cX1_isPair 80 = .ok (.invokestatic 7, 3) := by decide +kernel
theorem dX1_isPair_83 : decode cX1_isPair 83 = .ok (.iload_n 0, 1) := by decide +kernel
theorem dX1_isPair_84 : decode cX1_isPair 84 = .ok (.bipush 10, 2) := by decide +kernel
theorem dX1_isPair_86 : decode cX1_isPair 86 = .ok (.bipush 14, 2) := by decide +kernel
theorem dX1_isPair_88 : decode cX1_isPair 88 = .ok (.invokestatic 7, 3) := by decide +kernel
theorem dX1_isPair_91 : decode cX1_isPair 91 = .ok (.if_icmp .eq 7, 3) := by decide +kernel
theorem dX1_isPair_94 : decode cX1_isPair 94 = .ok (.iconst 1, 1) := by decide +kernel
theorem dX1_isPair_95 : decode cX1_isPair 95 = .ok (.goto 4, 3) := by decide +kernel
theorem dX1_isPair_98 : decode cX1_isPair 98 = .ok (.iconst 0, 1) := by decide +kernel
theorem dX1_isPair_99 : decode cX1_isPair 99 = .ok (.ireturn, 1) := by decide +kernel
theorem dX1_reach_0 : decode cX1_reach 0 = .ok (.iload_n 0, 1) := by decide +kernel
theorem dX1_reach_1 : decode cX1_reach 1 = .ok (.bipush 12, 2) := by decide +kernel
theorem dX1_reach_3 : decode cX1_reach 3 = .ok (.if_icmp .eq 9, 3) := by decide +kernel
theorem dX1_reach_6 : decode cX1_reach 6 = .ok (.iload_n 0, 1) := by decide +kernel
theorem dX1_reach_7 : decode cX1_reach 7 = .ok (.bipush 13, 2) := by decide +kernel
theorem dX1_reach_9 : decode cX1_reach 9 = .ok (.if_icmp .ne 8, 3) := by decide +kernel
theorem dX1_reach_12 : decode cX1_reach 12 = .ok (.ldc 37, 2) := by decide +kernel
theorem dX1_reach_14 : decode cX1_reach 14 = .ok (.goto 32, 3) := by decide +kernel
theorem dX1_reach_17 : decode cX1_reach 17 = .ok (.iload_n 0, 1) := by decide +kernel
theorem dX1_reach_18 : decode cX1_reach 18 = .ok (.bipush 14, 2) := by decide +kernel
theorem dX1_reach_20 : decode cX1_reach 20 = .ok (.if_icmp .eq 9, 3) := by decide +kernel
theorem dX1_reach_23 : decode cX1_reach 23 = .ok (.iload_n 0, 1) := by decide +kernel
theorem dX1_reach_24 : decode cX1_reach 24 = .ok (.bipush 15, 2) := by decide +kernel
theorem dX1_reach_26 : decode cX1_reach 26 = .ok (.if_icmp .ne 8, 3) := by decide +kernel
theorem dX1_reach_29 : decode cX1_reach 29 = .ok (.ldc 38, 2) := by decide +kernel
theorem dX1_reach_31 : decode cX1_reach 31 = .ok (.goto 15, 3) := by decide +kernel
theorem dX1_reach_34 : decode cX1_reach 34 = .ok (.iload_n 0, 1) := by decide +kernel
theorem dX1_reach_35 : decode cX1_reach 35 = .ok (.bipush 16, 2) := by decide +kernel
theorem dX1_reach_37 : decode cX1_reach 37 = .ok (.if_icmp .ne 8, 3) := by decide +kernel
theorem dX1_reach_40 : decode cX1_reach 40 = .ok (.ldc 39, 2) := by decide +kernel
theorem dX1_reach_42 : decode cX1_reach 42 = .ok (.goto 4, 3) := by decide +kernel
theorem dX1_reach_45 : decode cX1_reach 45 = .ok (.iconst 0, 1) := by decide +kernel
theorem dX1_reach_46 : decode cX1_reach 46 = .ok (.ireturn, 1) := by decide +kernel
set_option maxRecDepth 20000 in
theorem ggX1_by_X1_kind : GoodIn wsX1_by wsX1_kind := goodIn_r _ [5, 6, 7, 4, 8, 9, 10, 11, 12, 13, 14, 15, 16, 17, 18, 19, 20, 21, 22, 23, 24, 25, 26, 27, 28, 29, 30, 31] (by decide +kernel) (by decide +kernel)
set_option maxRecDepth 20000 in
theorem gX1_by_X1_kind : GoodIn wsX1_by (wsV RX1 40 RX1 yX1_kind wsX1_kind) := goodIn_app (goodIn_of _ (by decide +kernel)) ggX1_by_X1_kind
set_option maxRecDepth 20000 in
theorem ggX1_by_X1_signed : GoodIn wsX1_by wsX1_signed := goodIn_r _ [34] (by decide +kernel) (by decide +kernel)
set_option maxRecDepth 20000 in
theorem gX1_by_X1_signed : GoodIn wsX1_by (va_wsS RX1 43 yX1_signed wsX1_signed) := goodIn_app (goodIn_of _ (by decide +kernel)) ggX1_by_X1_signed
theorem dX1_by_0 : decode cX1_by 0 = .ok (.aload_n 0, 1) := by decide +kernel
theorem dX1_by_1 : decode cX1_by 1 = .ok (.iload_n 1, 1) := by decide +kernel
theorem dX1_by_2 : decode cX1_by 2 = .ok (.invokevirtual 40, 3) := by decide +kernel
theorem dX1_by_5 : decode cX1_by 5 = .ok (.istore_n 2, 1) := by decide +kernel
theorem dX1_by_6 : decode cX1_by 6 = .ok (.iload_n 2, 1) := by decide +kernel
theorem dX1_by_7 : decode cX1_by 7 = .ok (.bipush 12, 2) := by decide +kernel
theorem dX1_by_9 : decode cX1_by 9 = .ok (.if_icmp .lt 9, 3) := by decide +kernel
theorem dX1_by_12 : decode cX1_by 12 = .ok (.iload_n 2, 1) := by decide +kernel
theorem dX1_by_13 : decode cX1_by 13 = .ok (.bipush 16, 2) := by decide +kernel
theorem dX1_by_15 : decode cX1_by 15 = .ok (.if_icmp .le 5, 3) := by decide +kernel
theorem dX1_by_18 : decode cX1_by 18 = .ok (.iconst 1, 1) := by decide +kernel
theorem dX1_by_19 : decode cX1_by 19 = .ok (.ireturn, 1) := by decide +kernel
theorem dX1_by_20 : decode cX1_by 20 = .ok (.iconst 4, 1) := by decide +kernel
theorem dX1_by_21 : decode cX1_by 21 = .ok (.iload_n 2, 1) := by decide +kernel
theorem dX1_by_22 : decode cX1_by 22 = .ok (.bipush 14, 2) := by decide +kernel
theorem dX1_by_24 : decode cX1_by 24 = .ok (.if_icmp .ge 13, 3) := by decide +kernel
theorem dX1_by_27 : decode cX1_by 27 = .ok (.iload_n 1, 1) := by decide +kernel
theorem dX1_by_28 : decode cX1_by 28 = .ok (.iconst 0, 1) := by decide +kernel
theorem dX1_by_29 : decode cX1_by 29 = .ok (.bipush 25, 2) := by decide +kernel
theorem dX1_by_31 : decode cX1_by 31 = .ok (.invokestatic 43, 3) := by decide +kernel
theorem dX1_by_34 : decode cX1_by 34 = .ok (.goto 26, 3) := by decide +kernel
theorem dX1_by_37 : decode cX1_by 37 = .ok (.iload_n 2, 1) := by decide +kernel
theorem dX1_by_38 : decode cX1_by 38 = .ok (.bipush 16, 2) := by decide +kernel
theorem dX1_by_40 : decode cX1_by 40 = .ok (.if_icmp .ge 13, 3) := by decide +kernel
theorem dX1_by_43 : decode cX1_by 43 = .ok (.iload_n 1, 1) := by decide +kernel
theorem dX1_by_44 : decode cX1_by 44 = .ok (.iconst 5, 1) := by decide +kernel
theorem dX1_by_45 : decode cX1_by 45 = .ok (.bipush 23, 2) := by decide +kernel
theorem dX1_by_47 : decode cX1_by 47 = .ok (.invokestatic 43, 3) := by decide +kernel
theorem dX1_by_50 : decode cX1_by 50 = .ok (.goto 10, 3) := by decide +kernel
theorem dX1_by_53 : decode cX1_by 53 = .ok (.iload_n 1, 1) := by decide +kernel
theorem dX1_by_54 : decode cX1_by 54 = .ok (.iconst 5, 1) := by decide +kernel
theorem dX1_by_55 : decode cX1_by 55 = .ok (.bipush 18, 2) := by decide +kernel
theorem dX1_by_57 : decode cX1_by 57 = .ok (.invokestatic 43, 3) := by decide +kernel
theorem dX1_by_60 : decode cX1_by 60 = .ok (.imul, 1) := by decide +kernel
theorem dX1_by_61 : decode cX1_by 61 = .ok (.ireturn, 1) := by decide +kernel
set_option maxRecDepth 20000 in
theorem ggX1_reaches_X1_kind : GoodIn wsX1_reaches wsX1_kind := goodIn_r _ [6, 7, 8, 5, 9, 10, 11, 12, 13, 14, 15, 16, 17, 18, 19, 20, 21, 22, 23, 24, 25, 26, 27, 28, 29, 30, 31, 32] (by decide +kernel) (by decide +kernel)
set_option maxRecDepth 20000 in
theorem gX1_reaches_X1_kind : GoodIn wsX1_reaches (wsV RX1 40 RX1 yX1_kind wsX1_kind) := goodIn_app (goodIn_of _ (by decide +kernel)) ggX1_reaches_X1_kind
set_option maxRecDepth 20000 in
theorem ggX1_reaches_X1_reach : GoodIn wsX1_reaches wsX1_reach := goodIn_r _ [35, 36, 37, 38] (by decide +kernel) (by decide +kernel)
set_option maxRecDepth 20000 in
theorem gX1_reaches_X1_reach : GoodIn wsX1_reaches (va_wsS RX1 46 yX1_reach wsX1_reach) := goodIn_app (goodIn_of _ (by decide +kernel)) ggX1_reaches_X1_reach
theorem dX1_reaches_0 : decode cX1_reaches 0 = .ok (.aload_n 0, 1) := by decide +kernel
theorem dX1_reaches_1 : decode cX1_reaches 1 = .ok (.iload_n 1, 1) := by decide +kernel
theorem dX1_reaches_2 : decode cX1_reaches 2 = .ok (.invokevirtual 40, 3) := by decide +kernel
theorem dX1_reaches_5 : decode cX1_reaches 5 = .ok (.invokestatic 46, 3) := by decide +kernel
theorem dX1_reaches_8 : decode cX1_reaches 8 = .ok (.istore 4, 2) := by decide +kernel
theorem dX1_reaches_10 : decode cX1_reaches 10 = .ok (.iload 4, 2) := by decide +kernel
theorem dX1_reaches_12 : decode cX1_reaches 12 = .ok (.ifCond .le 34, 3) := by decide +kernel
theorem dX1_reaches_15 : decode cX1_reaches 15 = .ok (.lload_n 2, 1) := by decide +kernel
theorem dX1_reaches_16 : decode cX1_reaches 16 = .ok (.ldc2_w 49, 3) := by decide +kernel
theorem dX1_reaches_19 : decode cX1_reaches 19 = .ok (.lrem, 1) := by decide +kernel
theorem dX1_reaches_20 : decode cX1_reaches 20 = .ok (.lconst 0, 1) := by decide +kernel
theorem dX1_reaches_21 : decode cX1_reaches 21 = .ok (.lcmp, 1) := by decide +kernel
theorem dX1_reaches_22 : decode cX1_reaches 22 = .ok (.ifCond .ne 24, 3) := by decide +kernel
theorem dX1_reaches_25 : decode cX1_reaches 25 = .ok (.lload_n 2, 1) := by decide +kernel
theorem dX1_reaches_26 : decode cX1_reaches 26 = .ok (.iload 4, 2) := by decide +kernel
theorem dX1_reaches_28 : decode cX1_reaches 28 = .ok (.ineg, 1) := by decide +kernel
theorem dX1_reaches_29 : decode cX1_reaches 29 = .ok (.i2l, 1) := by decide +kernel
theorem dX1_reaches_30 : decode cX1_reaches 30 = .ok (.lcmp, 1) := by decide +kernel
theorem dX1_reaches_31 : decode cX1_reaches 31 = .ok (.ifCond .lt 15, 3) := by decide +kernel
theorem dX1_reaches_34 : decode cX1_reaches 34 = .ok (.lload_n 2, 1) := by decide +kernel
theorem dX1_reaches_35 : decode cX1_reaches 35 = .ok (.iload 4, 2) := by decide +kernel
theorem dX1_reaches_37 : decode cX1_reaches 37 = .ok (.i2l, 1) := by decide +kernel
theorem dX1_reaches_38 : decode cX1_reaches 38 = .ok (.lcmp, 1) := by decide +kernel
theorem dX1_reaches_39 : decode cX1_reaches 39 = .ok (.ifCond .ge 7, 3) := by decide +kernel
theorem dX1_reaches_42 : decode cX1_reaches 42 = .ok (.iconst 1, 1) := by decide +kernel
theorem dX1_reaches_43 : decode cX1_reaches 43 = .ok (.goto 4, 3) := by decide +kernel
theorem dX1_reaches_46 : decode cX1_reaches 46 = .ok (.iconst 0, 1) := by decide +kernel
theorem dX1_reaches_47 : decode cX1_reaches 47 = .ok (.ireturn, 1) := by decide +kernel
set_option maxRecDepth 20000 in
theorem ggX1_going_X1_reaches : GoodIn wsX1_going wsX1_reaches := goodIn_r _ [5, 6, 7, 8, 9, 4, 10, 11, 12, 13, 14, 15, 16, 17, 18, 19, 20, 21, 22, 23, 24, 25, 26, 27, 28, 29, 30, 31, 32, 33, 34, 35, 36, 37, 38, 39, 40, 41, 42] (by decide +kernel) (by decide +kernel)
set_option maxRecDepth 20000 in
theorem gX1_going_X1_reaches : GoodIn wsX1_going (wsV RX1 51 RX1 yX1_reaches wsX1_reaches) := goodIn_app (goodIn_of _ (by decide +kernel)) ggX1_going_X1_reaches
set_option maxRecDepth 20000 in
theorem ggX1_going_X1_kind : GoodIn wsX1_going wsX1_kind := goodIn_r _ [10, 11, 12, 4, 13, 14, 15, 16, 17, 18, 19, 20, 21, 22, 23, 24, 25, 26, 27, 28, 29, 30, 31, 32, 33, 34, 35, 36] (by decide +kernel) (by decide +kernel)
set_option maxRecDepth 20000 in
theorem gX1_going_X1_kind : GoodIn wsX1_going (wsV RX1 40 RX1 yX1_kind wsX1_kind) := goodIn_app (goodIn_of _ (by decide +kernel)) ggX1_going_X1_kind
set_option maxRecDepth 20000 in
theorem ggX1_going_X1_reach : GoodIn wsX1_going wsX1_reach := goodIn_r _ [39, 40, 41, 42] (by decide +kernel) (by decide +kernel)
set_option maxRecDepth 20000 in
theorem gX1_going_X1_reach : GoodIn wsX1_going (va_wsS RX1 46 yX1_reach wsX1_reach) := goodIn_app (goodIn_of _ (by decide +kernel)) ggX1_going_X1_reach
theorem dX1_going_0 : decode cX1_going 0 = .ok (.aload_n 0, 1) := by decide +kernel
theorem dX1_going_1 : decode cX1_going 1 = .ok (.iload_n 1, 1) := by decide +kernel
theorem dX1_going_2 : decode cX1_going 2 = .ok (.iload_n 2, 1) := by decide +kernel
theorem dX1_going_3 : decode cX1_going 3 = .ok (.i2l, 1) := by decide +kernel
theorem dX1_going_4 : decode cX1_going 4 = .ok (.invokevirtual 51, 3) := by decide +kernel
theorem dX1_going_7 : decode cX1_going 7 = .ok (.ifCond .ne 5, 3) := by decide +kernel
theorem dX1_going_10 : decode cX1_going 10 = .ok (.iload_n 1, 1) := by decide +kernel
theorem dX1_going_11 : decode cX1_going 11 = .ok (.ireturn, 1) := by decide +kernel
theorem dX1_going_12 : decode cX1_going 12 = .ok (.aload_n 0, 1) := by decide +kernel
theorem dX1_going_13 : decode cX1_going 13 = .ok (.iload_n 1, 1) := by decide +kernel
theorem dX1_going_14 : decode cX1_going 14 = .ok (.invokevirtual 40, 3) := by decide +kernel
theorem dX1_going_17 : decode cX1_going 17 = .ok (.istore_n 3, 1) := by decide +kernel
theorem dX1_going_18 : decode cX1_going 18 = .ok (.iload_n 3, 1) := by decide +kernel
theorem dX1_going_19 : decode cX1_going 19 = .ok (.bipush 14, 2) := by decide +kernel
theorem dX1_going_21 : decode cX1_going 21 = .ok (.if_icmp .ge 7, 3) := by decide +kernel
theorem dX1_going_24 : decode cX1_going 24 = .ok (.iconst 0, 1) := by decide +kernel
theorem dX1_going_25 : decode cX1_going 25 = .ok (.goto 4, 3) := by decide +kernel
theorem dX1_going_28 : decode cX1_going 28 = .ok (.iconst 5, 1) := by decide +kernel
theorem dX1_going_29 : decode cX1_going 29 = .ok (.istore 4, 2) := by decide +kernel
theorem dX1_going_31 : decode cX1_going 31 = .ok (.iload_n 3, 1) := by decide +kernel
theorem dX1_going_32 : decode cX1_going 32 = .ok (.invokestatic 46, 3) := by decide +kernel
theorem dX1_going_35 : decode cX1_going 35 = .ok (.iconst 2, 1) := by decide +kernel
theorem dX1_going_36 : decode cX1_going 36 = .ok (.idiv, 1) := by decide +kernel
theorem dX1_going_37 : decode cX1_going 37 = .ok (.iconst 1, 1) := by decide +kernel
theorem dX1_going_38 : decode cX1_going 38 = .ok (.isub, 1) := by decide +kernel
theorem dX1_going_39 : decode cX1_going 39 = .ok (.istore 5, 2) := by decide +kernel
theorem dX1_going_41 : decode cX1_going 41 = .ok (.iload_n 1, 1) := by decide +kernel
theorem dX1_going_42 : decode cX1_going 42 = .ok (.iload_n 1, 1) := by decide +kernel
theorem dX1_going_43 : decode cX1_going 43 = .ok (.iload 5, 2) := by decide +kernel
theorem dX1_going_45 : decode cX1_going 45 = .ok (.iload 4, 2) := by decide +kernel
theorem dX1_going_47 : decode cX1_going 47 = .ok (.ishl, 1) := by decide +kernel
theorem dX1_going_48 : decode cX1_going 48 = .ok (.iand, 1) := by decide +kernel
theorem dX1_going_49 : decode cX1_going 49 = .ok (.isub, 1) := by decide +kernel
theorem dX1_going_50 : decode cX1_going 50 = .ok (.iload_n 2, 1) := by decide +kernel
theorem dX1_going_51 : decode cX1_going 51 = .ok (.iconst 4, 1) := by decide +kernel
theorem dX1_going_52 : decode cX1_going 52 = .ok (.idiv, 1) := by decide +kernel
theorem dX1_going_53 : decode cX1_going 53 = .ok (.iload 5, 2) := by decide +kernel
theorem dX1_going_55 : decode cX1_going 55 = .ok (.iand, 1) := by decide +kernel
theorem dX1_going_56 : decode cX1_going 56 = .ok (.iload 4, 2) := by decide +kernel
theorem dX1_going_58 : decode cX1_going 58 = .ok (.ishl, 1) := by decide +kernel
theorem dX1_going_59 : decode cX1_going 59 = .ok (.iadd, 1) := by decide +kernel
theorem dX1_going_60 : decode cX1_going 60 = .ok (.ireturn, 1) := by decide +kernel
set_option maxRecDepth 20000 in
theorem ggX1_turned_X1_kind : GoodIn wsX1_turned wsX1_kind := goodIn_r _ [6, 7, 8, 5, 9, 10, 11, 12, 13, 14, 15, 16, 17, 18, 19, 20, 21, 22, 23, 24, 25, 26, 27, 28, 29, 30, 31, 32] (by decide +kernel) (by decide +kernel)
set_option maxRecDepth 20000 in
theorem gX1_turned_X1_kind : GoodIn wsX1_turned (wsV RX1 40 RX1 yX1_kind wsX1_kind) := goodIn_app (goodIn_of _ (by decide +kernel)) ggX1_turned_X1_kind
end
section
theorem dX1_turned_0 : decode cX1_turned 0 = .ok (.aload_n 0, 1) := by decide +kernel
theorem dX1_turned_1 : decode cX1_turned 1 = .ok (.iload_n 1, 1) := by decide +kernel
theorem dX1_turned_2 : decode cX1_turned 2 = .ok (.invokevirtual 40, 3) := by decide +kernel
theorem dX1_turned_5 : decode cX1_turned 5 = .ok (.istore_n 2, 1) := by decide +kernel
theorem dX1_turned_6 : decode cX1_turned 6 = .ok (.iload_n 2, 1) := by decide +kernel
theorem dX1_turned_7 : decode cX1_turned 7 = .ok (.bipush 14, 2) := by decide +kernel
theorem dX1_turned_9 : decode cX1_turned 9 = .ok (.if_icmp .ne 7, 3) := by decide +kernel
theorem dX1_turned_12 : decode cX1_turned 12 = .ok (.iconst 1, 1) := by decide +kernel
theorem dX1_turned_13 : decode cX1_turned 13 = .ok (.goto 21, 3) := by decide +kernel
theorem dX1_turned_16 : decode cX1_turned 16 = .ok (.iload_n 2, 1) := by decide +kernel
theorem dX1_turned_17 : decode cX1_turned 17 = .ok (.bipush 15, 2) := by decide +kernel
theorem dX1_turned_19 : decode cX1_turned 19 = .ok (.if_icmp .eq 9, 3) := by decide +kernel
theorem dX1_turned_22 : decode cX1_turned 22 = .ok (.iload_n 2, 1) := by decide +kernel
theorem dX1_turned_23 : decode cX1_turned 23 = .ok (.bipush 16, 2) := by decide +kernel
theorem dX1_turned_25 : decode cX1_turned 25 = .ok (.if_icmp .ne 8, 3) := by decide +kernel
theorem dX1_turned_28 : decode cX1_turned 28 = .ok (.ldc 55, 2) := by decide +kernel
theorem dX1_turned_30 : decode cX1_turned 30 = .ok (.goto 4, 3) := by decide +kernel
theorem dX1_turned_33 : decode cX1_turned 33 = .ok (.iconst 0, 1) := by decide +kernel
theorem dX1_turned_34 : decode cX1_turned 34 = .ok (.istore_n 3, 1) := by decide +kernel
theorem dX1_turned_35 : decode cX1_turned 35 = .ok (.iload_n 1, 1) := by decide +kernel
theorem dX1_turned_36 : decode cX1_turned 36 = .ok (.iload_n 3, 1) := by decide +kernel
theorem dX1_turned_37 : decode cX1_turned 37 = .ok (.iand, 1) := by decide +kernel
theorem dX1_turned_38 : decode cX1_turned 38 = .ok (.ifCond .ne 9, 3) := by decide +kernel
theorem dX1_turned_41 : decode cX1_turned 41 = .ok (.iload_n 1, 1) := by decide +kernel
theorem dX1_turned_42 : decode cX1_turned 42 = .ok (.iload_n 3, 1) := by decide +kernel
theorem dX1_turned_43 : decode cX1_turned 43 = .ok (.iadd, 1) := by decide +kernel
theorem dX1_turned_44 : decode cX1_turned 44 = .ok (.goto 6, 3) := by decide +kernel
theorem dX1_turned_47 : decode cX1_turned 47 = .ok (.iload_n 1, 1) := by decide +kernel
theorem dX1_turned_48 : decode cX1_turned 48 = .ok (.iload_n 3, 1) := by decide +kernel
theorem dX1_turned_49 : decode cX1_turned 49 = .ok (.isub, 1) := by decide +kernel
theorem dX1_turned_50 : decode cX1_turned 50 = .ok (.ireturn, 1) := by decide +kernel
set_option maxRecDepth 20000 in
theorem ggX1_page_X1_kind : GoodIn wsX1_page wsX1_kind := goodIn_r _ [9, 10, 11, 8, 12, 13, 14, 15, 16, 17, 18, 19, 20, 21, 22, 23, 24, 25, 26, 27, 28, 29, 30, 31, 32, 33, 34, 35] (by decide +kernel) (by decide +kernel)
set_option maxRecDepth 20000 in
theorem gX1_page_X1_kind : GoodIn wsX1_page (wsV RX1 40 RX1 yX1_kind wsX1_kind) := goodIn_app (goodIn_of _ (by decide +kernel)) ggX1_page_X1_kind
set_option maxRecDepth 20000 in
theorem ggX1_page_X1_signed : GoodIn wsX1_page wsX1_signed := goodIn_r _ [38] (by decide +kernel) (by decide +kernel)
set_option maxRecDepth 20000 in
theorem gX1_page_X1_signed : GoodIn wsX1_page (va_wsS RX1 43 yX1_signed wsX1_signed) := goodIn_app (goodIn_of _ (by decide +kernel)) ggX1_page_X1_signed
set_option maxRecDepth 20000 in
theorem ggX1_page_X1_bits : GoodIn wsX1_page wsX1_bits := goodIn_r _ [12] (by decide +kernel) (by decide +kernel)
set_option maxRecDepth 20000 in
theorem gX1_page_X1_bits : GoodIn wsX1_page (va_wsS RX1 7 yX1_bits wsX1_bits) := goodIn_app (goodIn_of _ (by decide +kernel)) ggX1_page_X1_bits
theorem dX1_page_0 : decode cX1_page 0 = .ok (.aload_n 0, 1) := by decide +kernel
theorem dX1_page_1 : decode cX1_page 1 = .ok (.iload_n 1, 1) := by decide +kernel
theorem dX1_page_2 : decode cX1_page 2 = .ok (.invokevirtual 40, 3) := by decide +kernel
theorem dX1_page_5 : decode cX1_page 5 = .ok (.iconst 5, 1) := by decide +kernel
theorem dX1_page_6 : decode cX1_page 6 = .ok (.if_icmp .eq 7, 3) := by decide +kernel
theorem dX1_page_9 : decode cX1_page 9 = .ok (.ldc2_w 56, 3) := by decide +kernel
theorem dX1_page_12 : decode cX1_page 12 = .ok (.lreturn, 1) := by decide +kernel
theorem dX1_page_13 : decode cX1_page 13 = .ok (.ldc2_w 49, 3) := by decide +kernel
theorem dX1_page_16 : decode cX1_page 16 = .ok (.iload_n 1, 1) := by decide +kernel
theorem dX1_page_17 : decode cX1_page 17 = .ok (.iconst 5, 1) := by decide +kernel
theorem dX1_page_18 : decode cX1_page 18 = .ok (.bipush 23, 2) := by decide +kernel
theorem dX1_page_20 : decode cX1_page 20 = .ok (.invokestatic 43, 3) := by decide +kernel
theorem dX1_page_23 : decode cX1_page 23 = .ok (.i2l, 1) := by decide +kernel
theorem dX1_page_24 : decode cX1_page 24 = .ok (.lmul, 1) := by decide +kernel
theorem dX1_page_25 : decode cX1_page 25 = .ok (.iload_n 1, 1) := by decide +kernel
theorem dX1_page_26 : decode cX1_page 26 = .ok (.bipush 29, 2) := by decide +kernel
theorem dX1_page_28 : decode cX1_page 28 = .ok (.bipush 30, 2) := by decide +kernel
theorem dX1_page_30 : decode cX1_page 30 = .ok (.invokestatic 7, 3) := by decide +kernel
theorem dX1_page_33 : decode cX1_page 33 = .ok (.i2l, 1) := by decide +kernel
theorem dX1_page_34 : decode cX1_page 34 = .ok (.ladd, 1) := by decide +kernel
theorem dX1_page_35 : decode cX1_page 35 = .ok (.lstore 4, 2) := by decide +kernel
theorem dX1_page_37 : decode cX1_page 37 = .ok (.lload_n 2, 1) := by decide +kernel
theorem dX1_page_38 : decode cX1_page 38 = .ok (.lload_n 2, 1) := by decide +kernel
theorem dX1_page_39 : decode cX1_page 39 = .ok (.ldc2_w 58, 3) := by decide +kernel
theorem dX1_page_42 : decode cX1_page 42 = .ok (.land, 1) := by decide +kernel
theorem dX1_page_43 : decode cX1_page 43 = .ok (.lsub, 1) := by decide +kernel
theorem dX1_page_44 : decode cX1_page 44 = .ok (.ldc2_w 60, 3) := by decide +kernel
theorem dX1_page_47 : decode cX1_page 47 = .ok (.lload 4, 2) := by decide +kernel
theorem dX1_page_49 : decode cX1_page 49 = .ok (.lmul, 1) := by decide +kernel
theorem dX1_page_50 : decode cX1_page 50 = .ok (.ladd, 1) := by decide +kernel
theorem dX1_page_51 : decode cX1_page 51 = .ok (.lreturn, 1) := by decide +kernel
set_option maxRecDepth 20000 in
theorem ggX1_paging_X1_kind : GoodIn wsX1_paging wsX1_kind := goodIn_r _ [14, 15, 16, 13, 17, 18, 19, 20, 21, 22, 23, 24, 25, 26, 27, 28, 29, 30, 31, 32, 33, 34, 35, 36, 37, 38, 39, 40] (by decide +kernel) (by decide +kernel)
set_option maxRecDepth 20000 in
theorem gX1_paging_X1_kind : GoodIn wsX1_paging (wsV RX1 40 RX1 yX1_kind wsX1_kind) := goodIn_app (goodIn_of _ (by decide +kernel)) ggX1_paging_X1_kind
set_option maxRecDepth 20000 in
theorem ggX1_paging_X1_bits : GoodIn wsX1_paging wsX1_bits := goodIn_r _ [17] (by decide +kernel) (by decide +kernel)
set_option maxRecDepth 20000 in
theorem gX1_paging_X1_bits : GoodIn wsX1_paging (va_wsS RX1 7 yX1_bits wsX1_bits) := goodIn_app (goodIn_of _ (by decide +kernel)) ggX1_paging_X1_bits
theorem dX1_paging_0 : decode cX1_paging 0 = .ok (.aload_n 0, 1) := by decide +kernel
theorem dX1_paging_1 : decode cX1_paging 1 = .ok (.iload_n 1, 1) := by decide +kernel
theorem dX1_paging_2 : decode cX1_paging 2 = .ok (.invokevirtual 40, 3) := by decide +kernel
theorem dX1_paging_5 : decode cX1_paging 5 = .ok (.iconst 5, 1) := by decide +kernel
theorem dX1_paging_6 : decode cX1_paging 6 = .ok (.if_icmp .eq 5, 3) := by decide +kernel
theorem dX1_paging_9 : decode cX1_paging 9 = .ok (.iload_n 1, 1) := by decide +kernel
theorem dX1_paging_10 : decode cX1_paging 10 = .ok (.ireturn, 1) := by decide +kernel
theorem dX1_paging_11 : decode cX1_paging 11 = .ok (.lload 4, 2) := by decide +kernel
theorem dX1_paging_13 : decode cX1_paging 13 = .ok (.lload 4, 2) := by decide +kernel
theorem dX1_paging_15 : decode cX1_paging 15 = .ok (.ldc2_w 58, 3) := by decide +kernel
theorem dX1_paging_18 : decode cX1_paging 18 = .ok (.land, 1) := by decide +kernel
theorem dX1_paging_19 : decode cX1_paging 19 = .ok (.lsub, 1) := by decide +kernel
theorem dX1_paging_20 : decode cX1_paging 20 = .ok (.lload_n 2, 1) := by decide +kernel
theorem dX1_paging_21 : decode cX1_paging 21 = .ok (.lload_n 2, 1) := by decide +kernel
theorem dX1_paging_22 : decode cX1_paging 22 = .ok (.ldc2_w 58, 3) := by decide +kernel
theorem dX1_paging_25 : decode cX1_paging 25 = .ok (.land, 1) := by decide +kernel
theorem dX1_paging_26 : decode cX1_paging 26 = .ok (.lsub, 1) := by decide +kernel
theorem dX1_paging_27 : decode cX1_paging 27 = .ok (.lsub, 1) := by decide +kernel
theorem dX1_paging_28 : decode cX1_paging 28 = .ok (.ldc2_w 60, 3) := by decide +kernel
theorem dX1_paging_31 : decode cX1_paging 31 = .ok (.ldiv, 1) := by decide +kernel
theorem dX1_paging_32 : decode cX1_paging 32 = .ok (.lstore 6, 2) := by decide +kernel
theorem dX1_paging_34 : decode cX1_paging 34 = .ok (.lload 6, 2) := by decide +kernel
theorem dX1_paging_36 : decode cX1_paging 36 = .ok (.ldc2_w 62, 3) := by decide +kernel
theorem dX1_paging_39 : decode cX1_paging 39 = .ok (.lcmp, 1) := by decide +kernel
theorem dX1_paging_40 : decode cX1_paging 40 = .ok (.ifCond .lt 12, 3) := by decide +kernel
theorem dX1_paging_43 : decode cX1_paging 43 = .ok (.lload 6, 2) := by decide +kernel
theorem dX1_paging_45 : decode cX1_paging 45 = .ok (.ldc2_w 64, 3) := by decide +kernel
theorem dX1_paging_48 : decode cX1_paging 48 = .ok (.lcmp, 1) := by decide +kernel
theorem dX1_paging_49 : decode cX1_paging 49 = .ok (.ifCond .le 5, 3) := by decide +kernel
theorem dX1_paging_52 : decode cX1_paging 52 = .ok (.iload_n 1, 1) := by decide +kernel
theorem dX1_paging_53 : decode cX1_paging 53 = .ok (.ireturn, 1) := by decide +kernel
theorem dX1_paging_54 : decode cX1_paging 54 = .ok (.lload 6, 2) := by decide +kernel
theorem dX1_paging_56 : decode cX1_paging 56 = .ok (.ldc2_w 66, 3) := by decide +kernel
theorem dX1_paging_59 : decode cX1_paging 59 = .ok (.land, 1) := by decide +kernel
theorem dX1_paging_60 : decode cX1_paging 60 = .ok (.l2i, 1) := by decide +kernel
theorem dX1_paging_61 : decode cX1_paging 61 = .ok (.istore 8, 2) := by decide +kernel
theorem dX1_paging_63 : decode cX1_paging 63 = .ok (.iload_n 1, 1) := by decide +kernel
theorem dX1_paging_64 : decode cX1_paging 64 = .ok (.iconst 0, 1) := by decide +kernel
theorem dX1_paging_65 : decode cX1_paging 65 = .ok (.iconst 4, 1) := by decide +kernel
theorem dX1_paging_66 : decode cX1_paging 66 = .ok (.invokestatic 7, 3) := by decide +kernel
theorem dX1_paging_69 : decode cX1_paging 69 = .ok (.ldc 68, 2) := by decide +kernel
theorem dX1_paging_71 : decode cX1_paging 71 = .ok (.isub, 1) := by decide +kernel
theorem dX1_paging_72 : decode cX1_paging 72 = .ok (.iload 8, 2) := by decide +kernel
theorem dX1_paging_74 : decode cX1_paging 74 = .ok (.ldc 69, 2) := by decide +kernel
theorem dX1_paging_76 : decode cX1_paging 76 = .ok (.imul, 1) := by decide +kernel
theorem dX1_paging_77 : decode cX1_paging 77 = .ok (.iadd, 1) := by decide +kernel
theorem dX1_paging_78 : decode cX1_paging 78 = .ok (.lload 6, 2) := by decide +kernel
theorem dX1_paging_80 : decode cX1_paging 80 = .ok (.iload 8, 2) := by decide +kernel
theorem dX1_paging_82 : decode cX1_paging 82 = .ok (.i2l, 1) := by decide +kernel
theorem dX1_paging_83 : decode cX1_paging 83 = .ok (.lsub, 1) := by decide +kernel
theorem dX1_paging_84 : decode cX1_paging 84 = .ok (.ldc2_w 49, 3) := by decide +kernel
theorem dX1_paging_87 : decode cX1_paging 87 = .ok (.ldiv, 1) := by decide +kernel
theorem dX1_paging_88 : decode cX1_paging 88 = .ok (.ldc2_w 70, 3) := by decide +kernel
theorem dX1_paging_91 : decode cX1_paging 91 = .ok (.land, 1) := by decide +kernel
theorem dX1_paging_92 : decode cX1_paging 92 = .ok (.l2i, 1) := by decide +kernel
theorem dX1_paging_93 : decode cX1_paging 93 = .ok (.bipush 32, 2) := by decide +kernel
theorem dX1_paging_95 : decode cX1_paging 95 = .ok (.imul, 1) := by decide +kernel
theorem dX1_paging_96 : decode cX1_paging 96 = .ok (.iadd, 1) := by decide +kernel
theorem dX1_paging_97 : decode cX1_paging 97 = .ok (.ireturn, 1) := by decide +kernel
set_option maxRecDepth 20000 in
theorem ggX1_goesOn_X1_kind : GoodIn wsX1_goesOn wsX1_kind := goodIn_r _ [5, 6, 7, 4, 8, 9, 10, 11, 12, 13, 14, 15, 16, 17, 18, 19, 20, 21, 22, 23, 24, 25, 26, 27, 28, 29, 30, 31] (by decide +kernel) (by decide +kernel)
set_option maxRecDepth 20000 in
theorem gX1_goesOn_X1_kind : GoodIn wsX1_goesOn (wsV RX1 40 RX1 yX1_kind wsX1_kind) := goodIn_app (goodIn_of _ (by decide +kernel)) ggX1_goesOn_X1_kind
theorem dX1_goesOn_0 : decode cX1_goesOn 0 = .ok (.aload_n 0, 1) := by decide +kernel
theorem dX1_goesOn_1 : decode cX1_goesOn 1 = .ok (.iload_n 1, 1) := by decide +kernel
theorem dX1_goesOn_2 : decode cX1_goesOn 2 = .ok (.invokevirtual 40, 3) := by decide +kernel
theorem dX1_goesOn_5 : decode cX1_goesOn 5 = .ok (.istore_n 2, 1) := by decide +kernel
theorem dX1_goesOn_6 : decode cX1_goesOn 6 = .ok (.iload_n 2, 1) := by decide +kernel
theorem dX1_goesOn_7 : decode cX1_goesOn 7 = .ok (.ifCond .le 25, 3) := by decide +kernel
theorem dX1_goesOn_10 : decode cX1_goesOn 10 = .ok (.iload_n 2, 1) := by decide +kernel
theorem dX1_goesOn_11 : decode cX1_goesOn 11 = .ok (.bipush 12, 2) := by decide +kernel
theorem dX1_goesOn_13 : decode cX1_goesOn 13 = .ok (.if_icmp .eq 19, 3) := by decide +kernel
theorem dX1_goesOn_16 : decode cX1_goesOn 16 = .ok (.iload_n 2, 1) := by decide +kernel
theorem dX1_goesOn_17 : decode cX1_goesOn 17 = .ok (.bipush 17, 2) := by decide +kernel
theorem dX1_goesOn_19 : decode cX1_goesOn 19 = .ok (.if_icmp .eq 13, 3) := by decide +kernel
theorem dX1_goesOn_22 : decode cX1_goesOn 22 = .ok (.iload_n 2, 1) := by decide +kernel
theorem dX1_goesOn_23 : decode cX1_goesOn 23 = .ok (.bipush 19, 2) := by decide +kernel
theorem dX1_goesOn_25 : decode cX1_goesOn 25 = .ok (.if_icmp .eq 7, 3) := by decide +kernel
theorem dX1_goesOn_28 : decode cX1_goesOn 28 = .ok (.iconst 1, 1) := by decide +kernel
theorem dX1_goesOn_29 : decode cX1_goesOn 29 = .ok (.goto 4, 3) := by decide +kernel
theorem dX1_goesOn_32 : decode cX1_goesOn 32 = .ok (.iconst 0, 1) := by decide +kernel
theorem dX1_goesOn_33 : decode cX1_goesOn 33 = .ok (.ireturn, 1) := by decide +kernel
set_option maxRecDepth 20000 in
theorem ggX1_register_X1_kind : GoodIn wsX1_register wsX1_kind := goodIn_r _ [5, 6, 7, 4, 8, 9, 10, 11, 12, 13, 14, 15, 16, 17, 18, 19, 20, 21, 22, 23, 24, 25, 26, 27, 28, 29, 30, 31] (by decide +kernel) (by decide +kernel)
set_option maxRecDepth 20000 in
theorem gX1_register_X1_kind : GoodIn wsX1_register (wsV RX1 40 RX1 yX1_kind wsX1_kind) := goodIn_app (goodIn_of _ (by decide +kernel)) ggX1_register_X1_kind
set_option maxRecDepth 20000 in
theorem ggX1_register_X1_bits : GoodIn wsX1_register wsX1_bits := goodIn_r _ [8] (by decide +kernel) (by decide +kernel)
set_option maxRecDepth 20000 in
theorem gX1_register_X1_bits : GoodIn wsX1_register (va_wsS RX1 7 yX1_bits wsX1_bits) := goodIn_app (goodIn_of _ (by decide +kernel)) ggX1_register_X1_bits
theorem dX1_register_0 : decode cX1_register 0 = .ok (.aload_n 0, 1) := by decide +kernel
theorem dX1_register_1 : decode cX1_register 1 = .ok (.iload_n 1, 1) := by decide +kernel
theorem dX1_register_2 : decode cX1_register 2 = .ok (.invokevirtual 40, 3) := by decide +kernel
theorem dX1_register_5 : decode cX1_register 5 = .ok (.istore_n 3, 1) := by decide +kernel
theorem dX1_register_6 : decode cX1_register 6 = .ok (.iload_n 2, 1) := by decide +kernel
theorem dX1_register_7 : decode cX1_register 7 = .ok (.ifCond .ne 33, 3) := by decide +kernel
theorem dX1_register_10 : decode cX1_register 10 = .ok (.iload_n 3, 1) := by decide +kernel
theorem dX1_register_11 : decode cX1_register 11 = .ok (.ifCond .le 9, 3) := by decide +kernel
theorem dX1_register_14 : decode cX1_register 14 = .ok (.iload_n 3, 1) := by decide +kernel
theorem dX1_register_15 : decode cX1_register 15 = .ok (.bipush 12, 2) := by decide +kernel
theorem dX1_register_17 : decode cX1_register 17 = .ok (.if_icmp .lt 15, 3) := by decide +kernel
theorem dX1_register_20 : decode cX1_register 20 = .ok (.iload_n 3, 1) := by decide +kernel
theorem dX1_register_21 : decode cX1_register 21 = .ok (.bipush 15, 2) := by decide +kernel
theorem dX1_register_23 : decode cX1_register 23 = .ok (.if_icmp .eq 9, 3) := by decide +kernel
theorem dX1_register_26 : decode cX1_register 26 = .ok (.iload_n 3, 1) := by decide +kernel
theorem dX1_register_27 : decode cX1_register 27 = .ok (.bipush 16, 2) := by decide +kernel
theorem dX1_register_29 : decode cX1_register 29 = .ok (.if_icmp .ne 7, 3) := by decide +kernel
theorem dX1_register_32 : decode cX1_register 32 = .ok (.iconst 1, 1) := by decide +kernel
theorem dX1_register_33 : decode cX1_register 33 = .ok (.goto 114, 3) := by decide +kernel
theorem dX1_register_36 : decode cX1_register 36 = .ok (.iconst 0, 1) := by decide +kernel
theorem dX1_register_37 : decode cX1_register 37 = .ok (.goto 110, 3) := by decide +kernel
theorem dX1_register_40 : decode cX1_register 40 = .ok (.iload_n 2, 1) := by decide +kernel
theorem dX1_register_41 : decode cX1_register 41 = .ok (.iconst 1, 1) := by decide +kernel
theorem dX1_register_42 : decode cX1_register 42 = .ok (.if_icmp .ne 43, 3) := by decide +kernel
theorem dX1_register_45 : decode cX1_register 45 = .ok (.iload_n 3, 1) := by decide +kernel
theorem dX1_register_46 : decode cX1_register 46 = .ok (.ifCond .le 8, 3) := by decide +kernel
theorem dX1_register_49 : decode cX1_register 49 = .ok (.iload_n 3, 1) := by decide +kernel
theorem dX1_register_50 : decode cX1_register 50 = .ok (.iconst 4, 1) := by decide +kernel
theorem dX1_register_51 : decode cX1_register 51 = .ok (.if_icmp .lt 26, 3) := by decide +kernel
theorem dX1_register_54 : decode cX1_register 54 = .ok (.iload_n 3, 1) := by decide +kernel
theorem dX1_register_55 : decode cX1_register 55 = .ok (.iconst 5, 1) := by decide +kernel
theorem dX1_register_56 : decode cX1_register 56 = .ok (.if_icmp .le 9, 3) := by decide +kernel
theorem dX1_register_59 : decode cX1_register 59 = .ok (.iload_n 3, 1) := by decide +kernel
theorem dX1_register_60 : decode cX1_register 60 = .ok (.bipush 12, 2) := by decide +kernel
theorem dX1_register_62 : decode cX1_register 62 = .ok (.if_icmp .lt 15, 3) := by decide +kernel
theorem dX1_register_65 : decode cX1_register 65 = .ok (.iload_n 3, 1) := by decide +kernel
theorem dX1_register_66 : decode cX1_register 66 = .ok (.bipush 16, 2) := by decide +kernel
theorem dX1_register_68 : decode cX1_register 68 = .ok (.if_icmp .le 13, 3) := by decide +kernel
theorem dX1_register_71 : decode cX1_register 71 = .ok (.iload_n 3, 1) := by decide +kernel
theorem dX1_register_72 : decode cX1_register 72 = .ok (.bipush 20, 2) := by decide +kernel
theorem dX1_register_74 : decode cX1_register 74 = .ok (.if_icmp .ge 7, 3) := by decide +kernel
theorem dX1_register_77 : decode cX1_register 77 = .ok (.iconst 1, 1) := by decide +kernel
theorem dX1_register_78 : decode cX1_register 78 = .ok (.goto 69, 3) := by decide +kernel
theorem dX1_register_81 : decode cX1_register 81 = .ok (.iconst 0, 1) := by decide +kernel
theorem dX1_register_82 : decode cX1_register 82 = .ok (.goto 65, 3) := by decide +kernel
theorem dX1_register_85 : decode cX1_register 85 = .ok (.iload_n 2, 1) := by decide +kernel
theorem dX1_register_86 : decode cX1_register 86 = .ok (.iconst 2, 1) := by decide +kernel
theorem dX1_register_87 : decode cX1_register 87 = .ok (.if_icmp .ne 38, 3) := by decide +kernel
theorem dX1_register_90 : decode cX1_register 90 = .ok (.iload_n 3, 1) := by decide +kernel
theorem dX1_register_91 : decode cX1_register 91 = .ok (.iconst 2, 1) := by decide +kernel
theorem dX1_register_92 : decode cX1_register 92 = .ok (.if_icmp .eq 25, 3) := by decide +kernel
theorem dX1_register_95 : decode cX1_register 95 = .ok (.iload_n 3, 1) := by decide +kernel
theorem dX1_register_96 : decode cX1_register 96 = .ok (.iconst 3, 1) := by decide +kernel
theorem dX1_register_97 : decode cX1_register 97 = .ok (.if_icmp .eq 20, 3) := by decide +kernel
theorem dX1_register_100 : decode cX1_register 100 = .ok (.iload_n 3, 1) := by decide +kernel
theorem dX1_register_101 : decode cX1_register 101 = .ok (.iconst 5, 1) := by decide +kernel
theorem dX1_register_102 : decode cX1_register 102 = .ok (.if_icmp .le 9, 3) := by decide +kernel
theorem dX1_register_105 : decode cX1_register 105 = .ok (.iload_n 3, 1) := by decide +kernel
theorem dX1_register_106 : decode cX1_register 106 = .ok (.bipush 9, 2) := by decide +kernel
theorem dX1_register_108 : decode cX1_register 108 = .ok (.if_icmp .lt 9, 3) := by decide +kernel
theorem dX1_register_111 : decode cX1_register 111 = .ok (.iload_n 3, 1) := by decide +kernel
theorem dX1_register_112 : decode cX1_register 112 = .ok (.bipush 10, 2) := by decide +kernel
theorem dX1_register_114 : decode cX1_register 114 = .ok (.if_icmp .ne 7, 3) := by decide +kernel
theorem dX1_register_117 : decode cX1_register 117 = .ok (.iconst 1, 1) := by decide +kernel
theorem dX1_register_118 : decode cX1_register 118 = .ok (.goto 29, 3) := by decide +kernel
theorem dX1_register_121 : decode cX1_register 121 = .ok (.iconst 0, 1) := by decide +kernel
theorem dX1_register_122 : decode cX1_register 122 = .ok (.goto 25, 3) := by decide +kernel
theorem dX1_register_125 : decode cX1_register 125 = .ok (.iload_n 2, 1) := by decide +kernel
theorem dX1_register_126 : decode cX1_register 126 = .ok (.iconst 3, 1) := by decide +kernel
theorem dX1_register_127 : decode cX1_register 127 = .ok (.if_icmp .ne 19, 3) := by decide +kernel
theorem dX1_register_130 : decode cX1_register 130 = .ok (.iload_n 3, 1) := by decide +kernel
theorem dX1_register_131 : decode cX1_register 131 = .ok (.bipush 6, 2) := by decide +kernel
theorem dX1_register_133 : decode cX1_register 133 = .ok (.if_icmp .eq 9, 3) := by decide +kernel
theorem dX1_register_136 : decode cX1_register 136 = .ok (.iload_n 3, 1) := by decide +kernel
theorem dX1_register_137 : decode cX1_register 137 = .ok (.bipush 11, 2) := by decide +kernel
theorem dX1_register_139 : decode cX1_register 139 = .ok (.if_icmp .ne 7, 3) := by decide +kernel
theorem dX1_register_142 : decode cX1_register 142 = .ok (.iconst 1, 1) := by decide +kernel
theorem dX1_register_143 : decode cX1_register 143 = .ok (.goto 4, 3) := by decide +kernel
theorem dX1_register_146 : decode cX1_register 146 = .ok (.iconst 0, 1) := by decide +kernel
theorem dX1_register_147 : decode cX1_register 147 = .ok (.istore 4, 2) := by decide +kernel
theorem dX1_register_149 : decode cX1_register 149 = .ok (.iload 4, 2) := by decide +kernel
theorem dX1_register_151 : decode cX1_register 151 = .ok (.ifCond .ne 5, 3) := by decide +kernel
theorem dX1_register_154 : decode cX1_register 154 = .ok (.iconst (-1), 1) := by decide +kernel
theorem dX1_register_155 : decode cX1_register 155 = .ok (.ireturn, 1) := by decide +kernel
theorem dX1_register_156 : decode cX1_register 156 = .ok (.iload_n 2, 1) := by decide +kernel
theorem dX1_register_157 : decode cX1_register 157 = .ok (.ifCond .ne 7, 3) := by decide +kernel
theorem dX1_register_160 : decode cX1_register 160 = .ok (.iconst 0, 1) := by decide +kernel
theorem dX1_register_161 : decode cX1_register 161 = .ok (.goto 24, 3) := by decide +kernel
theorem dX1_register_164 : decode cX1_register 164 = .ok (.iload_n 2, 1) := by decide +kernel
theorem dX1_register_165 : decode cX1_register 165 = .ok (.iconst 1, 1) := by decide +kernel
theorem dX1_register_166 : decode cX1_register 166 = .ok (.if_icmp .ne 7, 3) := by decide +kernel
theorem dX1_register_169 : decode cX1_register 169 = .ok (.iconst 5, 1) := by decide +kernel
theorem dX1_register_170 : decode cX1_register 170 = .ok (.goto 15, 3) := by decide +kernel
theorem dX1_register_173 : decode cX1_register 173 = .ok (.iload_n 2, 1) := by decide +kernel
theorem dX1_register_174 : decode cX1_register 174 = .ok (.iconst 2, 1) := by decide +kernel
theorem dX1_register_175 : decode cX1_register 175 = .ok (.if_icmp .ne 8, 3) := by decide +kernel
theorem dX1_register_178 : decode cX1_register 178 = .ok (.bipush 16, 2) := by decide +kernel
theorem dX1_register_180 : decode cX1_register 180 = .ok (.goto 5, 3) := by decide +kernel
theorem dX1_register_183 : decode cX1_register 183 = .ok (.bipush 10, 2) := by decide +kernel
theorem dX1_register_185 : decode cX1_register 185 = .ok (.istore 5, 2) := by decide +kernel
theorem dX1_register_187 : decode cX1_register 187 = .ok (.iload_n 1, 1) := by decide +kernel
theorem dX1_register_188 : decode cX1_register 188 = .ok (.iload 5, 2) := by decide +kernel
theorem dX1_register_190 : decode cX1_register 190 = .ok (.iload 5, 2) := by decide +kernel
theorem dX1_register_192 : decode cX1_register 192 = .ok (.iconst 4, 1) := by decide +kernel
theorem dX1_register_193 : decode cX1_register 193 = .ok (.iadd, 1) := by decide +kernel
theorem dX1_register_194 : decode cX1_register 194 = .ok (.invokestatic 7, 3) := by decide +kernel
theorem dX1_register_197 : decode cX1_register 197 = .ok (.ireturn, 1) := by decide +kernel
set_option maxRecDepth 20000 in
theorem ggL_law_X0_init : GoodIn wsL_law wsX0_init := goodIn_r _ [9, 10, 11, 12] (by decide +kernel) (by decide +kernel)
set_option maxRecDepth 20000 in
theorem gL_law_X0_init : GoodIn wsL_law (wsX0_init) := ggL_law_X0_init
set_option maxRecDepth 20000 in
theorem ggL_law_X1_init : GoodIn wsL_law wsX1_init := goodIn_r _ [15, 16, 11, 12] (by decide +kernel) (by decide +kernel)
set_option maxRecDepth 20000 in
theorem gL_law_X1_init : GoodIn wsL_law (wsX1_init) := ggL_law_X1_init
set_option maxRecDepth 20000 in
theorem ggL_law_X0_kind : GoodIn wsL_law wsX0_kind := goodIn_r _ [20, 21, 22, 2, 23, 24, 25, 26, 27, 28, 29, 30, 31, 32, 33, 34, 35, 36, 37, 38, 39, 40, 41, 42, 43, 44, 45, 46, 47, 48, 49, 50, 51] (by decide +kernel) (by decide +kernel)
set_option maxRecDepth 20000 in
theorem gL_law_X0_kind : GoodIn wsL_law (wsV RL 13 RX0 yX0_kind wsX0_kind) := goodIn_app (goodIn_of _ (by decide +kernel)) ggL_law_X0_kind
set_option maxRecDepth 20000 in
theorem ggL_law_X1_kind : GoodIn wsL_law wsX1_kind := goodIn_r _ [55, 56, 57, 5, 58, 59, 60, 61, 62, 63, 64, 65, 66, 67, 68, 69, 70, 71, 72, 73, 74, 75, 76, 77, 78, 79, 80, 81] (by decide +kernel) (by decide +kernel)
set_option maxRecDepth 20000 in
theorem gL_law_X1_kind : GoodIn wsL_law (wsV RL 17 RX1 yX1_kind wsX1_kind) := goodIn_app (goodIn_of _ (by decide +kernel)) ggL_law_X1_kind
set_option maxRecDepth 20000 in
theorem ggL_law_X0_by : GoodIn wsL_law wsX0_by := goodIn_r _ [85, 86, 18, 19, 2, 20, 21, 22, 23, 24, 25, 26, 27, 28, 29, 30, 31, 32, 33, 34, 35, 36, 37, 38, 39, 40, 41, 42, 43, 44, 45, 46, 47, 48, 49, 50, 51, 87, 88, 89, 90, 91, 92, 93, 94, 95, 96, 97, 98] (by decide +kernel) (by decide +kernel)
set_option maxRecDepth 20000 in
theorem gL_law_X0_by : GoodIn wsL_law (wsV RL 18 RX0 yX0_by wsX0_by) := goodIn_app (goodIn_of _ (by decide +kernel)) ggL_law_X0_by
set_option maxRecDepth 20000 in
theorem ggL_law_X1_by : GoodIn wsL_law wsX1_by := goodIn_r _ [102, 103, 53, 54, 5, 55, 56, 57, 58, 59, 60, 61, 62, 63, 64, 65, 66, 67, 68, 69, 70, 71, 72, 73, 74, 75, 76, 77, 78, 79, 80, 81, 104, 105, 106] (by decide +kernel) (by decide +kernel)
set_option maxRecDepth 20000 in
theorem gL_law_X1_by : GoodIn wsL_law (wsV RL 21 RX1 yX1_by wsX1_by) := goodIn_app (goodIn_of _ (by decide +kernel)) ggL_law_X1_by
set_option maxRecDepth 20000 in
theorem ggL_law_X0_going : GoodIn wsL_law wsX0_going := goodIn_r _ [110, 86, 18, 19, 2, 20, 21, 22, 23, 24, 25, 26, 27, 28, 29, 30, 31, 32, 33, 34, 35, 36, 37, 38, 39, 40, 41, 42, 43, 44, 45, 46, 47, 48, 49, 50, 51, 111, 112, 113, 114, 87, 88, 89, 93, 94, 95, 90, 91, 92] (by decide +kernel) (by decide +kernel)
set_option maxRecDepth 20000 in
theorem gL_law_X0_going : GoodIn wsL_law (wsV RL 22 RX0 yX0_going wsX0_going) := goodIn_app (goodIn_of _ (by decide +kernel)) ggL_law_X0_going
set_option maxRecDepth 20000 in
theorem ggL_law_X1_going : GoodIn wsL_law wsX1_going := goodIn_r _ [118, 119, 120, 121, 5, 122, 123, 103, 53, 54, 55, 56, 57, 58, 59, 60, 61, 62, 63, 64, 65, 66, 67, 68, 69, 70, 71, 72, 73, 74, 75, 76, 77, 78, 79, 80, 81, 124, 125, 126, 127, 128, 129] (by decide +kernel) (by decide +kernel)
set_option maxRecDepth 20000 in
theorem gL_law_X1_going : GoodIn wsL_law (wsV RL 26 RX1 yX1_going wsX1_going) := goodIn_app (goodIn_of _ (by decide +kernel)) ggL_law_X1_going
set_option maxRecDepth 20000 in
theorem ggL_law_X0_reaches : GoodIn wsL_law wsX0_reaches := goodIn_r _ [133, 86, 18, 19, 2, 20, 21, 22, 23, 24, 25, 26, 27, 28, 29, 30, 31, 32, 33, 34, 35, 36, 37, 38, 39, 40, 41, 42, 43, 44, 45, 46, 47, 48, 49, 50, 51, 111, 112, 113, 114, 87, 88, 89, 93, 94, 95] (by decide +kernel) (by decide +kernel)
set_option maxRecDepth 20000 in
theorem gL_law_X0_reaches : GoodIn wsL_law (wsV RL 29 RX0 yX0_reaches wsX0_reaches) := goodIn_app (goodIn_of _ (by decide +kernel)) ggL_law_X0_reaches
set_option maxRecDepth 20000 in
theorem ggL_law_X1_reaches : GoodIn wsL_law wsX1_reaches := goodIn_r _ [122, 123, 103, 53, 54, 5, 55, 56, 57, 58, 59, 60, 61, 62, 63, 64, 65, 66, 67, 68, 69, 70, 71, 72, 73, 74, 75, 76, 77, 78, 79, 80, 81, 124, 125, 126, 127, 128, 129] (by decide +kernel) (by decide +kernel)
set_option maxRecDepth 20000 in
theorem gL_law_X1_reaches : GoodIn wsL_law (wsV RL 33 RX1 yX1_reaches wsX1_reaches) := goodIn_app (goodIn_of _ (by decide +kernel)) ggL_law_X1_reaches
set_option maxRecDepth 20000 in
theorem ggL_law_X0_turned : GoodIn wsL_law wsX0_turned := goodIn_r _ [138, 139, 86, 18, 19, 2, 20, 21, 22, 23, 24, 25, 26, 27, 28, 29, 30, 31, 32, 33, 34, 35, 36, 37, 38, 39, 40, 41, 42, 43, 44, 45, 46, 47, 48, 49, 50, 51] (by decide +kernel) (by decide +kernel)
set_option maxRecDepth 20000 in
theorem gL_law_X0_turned : GoodIn wsL_law (wsV RL 34 RX0 yX0_turned wsX0_turned) := goodIn_app (goodIn_of _ (by decide +kernel)) ggL_law_X0_turned
set_option maxRecDepth 20000 in
theorem ggL_law_X1_turned : GoodIn wsL_law wsX1_turned := goodIn_r _ [143, 144, 103, 53, 54, 5, 55, 56, 57, 58, 59, 60, 61, 62, 63, 64, 65, 66, 67, 68, 69, 70, 71, 72, 73, 74, 75, 76, 77, 78, 79, 80, 81] (by decide +kernel) (by decide +kernel)
set_option maxRecDepth 20000 in
theorem gL_law_X1_turned : GoodIn wsL_law (wsV RL 37 RX1 yX1_turned wsX1_turned) := goodIn_app (goodIn_of _ (by decide +kernel)) ggL_law_X1_turned
set_option maxRecDepth 20000 in
theorem ggL_law_X0_page : GoodIn wsL_law wsX0_page := goodIn_r _ [148, 149, 150, 86, 18, 19, 2, 20, 21, 22, 23, 24, 25, 26, 27, 28, 29, 30, 31, 32, 33, 34, 35, 36, 37, 38, 39, 40, 41, 42, 43, 44, 45, 46, 47, 48, 49, 50, 51, 96, 97, 98] (by decide +kernel) (by decide +kernel)
set_option maxRecDepth 20000 in
theorem gL_law_X0_page : GoodIn wsL_law (wsV RL 38 RX0 yX0_page wsX0_page) := goodIn_app (goodIn_of _ (by decide +kernel)) ggL_law_X0_page
set_option maxRecDepth 20000 in
theorem ggL_law_X1_page : GoodIn wsL_law wsX1_page := goodIn_r _ [154, 155, 123, 156, 157, 103, 53, 54, 5, 55, 56, 57, 58, 59, 60, 61, 62, 63, 64, 65, 66, 67, 68, 69, 70, 71, 72, 73, 74, 75, 76, 77, 78, 79, 80, 81, 104, 105, 106] (by decide +kernel) (by decide +kernel)
set_option maxRecDepth 20000 in
theorem gL_law_X1_page : GoodIn wsL_law (wsV RL 42 RX1 yX1_page wsX1_page) := goodIn_app (goodIn_of _ (by decide +kernel)) ggL_law_X1_page
set_option maxRecDepth 20000 in
theorem ggL_law_X0_paging : GoodIn wsL_law wsX0_paging := goodIn_r _ [161, 162, 163, 164, 86, 18, 19, 2, 20, 21, 22, 23, 24, 25, 26, 27, 28, 29, 30, 31, 32, 33, 34, 35, 36, 37, 38, 39, 40, 41, 42, 43, 44, 45, 46, 47, 48, 49, 50, 51] (by decide +kernel) (by decide +kernel)
set_option maxRecDepth 20000 in
theorem gL_law_X0_paging : GoodIn wsL_law (wsV RL 43 RX0 yX0_paging wsX0_paging) := goodIn_app (goodIn_of _ (by decide +kernel)) ggL_law_X0_paging
set_option maxRecDepth 20000 in
theorem ggL_law_X1_paging : GoodIn wsL_law wsX1_paging := goodIn_r _ [168, 156, 157, 169, 170, 171, 172, 173, 123, 174, 103, 53, 54, 5, 55, 56, 57, 58, 59, 60, 61, 62, 63, 64, 65, 66, 67, 68, 69, 70, 71, 72, 73, 74, 75, 76, 77, 78, 79, 80, 81] (by decide +kernel) (by decide +kernel)
set_option maxRecDepth 20000 in
theorem gL_law_X1_paging : GoodIn wsL_law (wsV RL 47 RX1 yX1_paging wsX1_paging) := goodIn_app (goodIn_of _ (by decide +kernel)) ggL_law_X1_paging
set_option maxRecDepth 20000 in
theorem ggL_law_X0_goesOn : GoodIn wsL_law wsX0_goesOn := goodIn_r _ [178, 86, 18, 19, 2, 20, 21, 22, 23, 24, 25, 26, 27, 28, 29, 30, 31, 32, 33, 34, 35, 36, 37, 38, 39, 40, 41, 42, 43, 44, 45, 46, 47, 48, 49, 50, 51] (by decide +kernel) (by decide +kernel)
set_option maxRecDepth 20000 in
theorem gL_law_X0_goesOn : GoodIn wsL_law (wsV RL 48 RX0 yX0_goesOn wsX0_goesOn) := goodIn_app (goodIn_of _ (by decide +kernel)) ggL_law_X0_goesOn
set_option maxRecDepth 20000 in
theorem ggL_law_X1_goesOn : GoodIn wsL_law wsX1_goesOn := goodIn_r _ [182, 103, 53, 54, 5, 55, 56, 57, 58, 59, 60, 61, 62, 63, 64, 65, 66, 67, 68, 69, 70, 71, 72, 73, 74, 75, 76, 77, 78, 79, 80, 81] (by decide +kernel) (by decide +kernel)
set_option maxRecDepth 20000 in
theorem gL_law_X1_goesOn : GoodIn wsL_law (wsV RL 52 RX1 yX1_goesOn wsX1_goesOn) := goodIn_app (goodIn_of _ (by decide +kernel)) ggL_law_X1_goesOn
set_option maxRecDepth 20000 in
theorem ggL_law_X0_register : GoodIn wsL_law wsX0_register := goodIn_r _ [186, 86, 18, 19, 2, 20, 21, 22, 23, 24, 25, 26, 27, 28, 29, 30, 31, 32, 33, 34, 35, 36, 37, 38, 39, 40, 41, 42, 43, 44, 45, 46, 47, 48, 49, 50, 51, 187, 188, 189, 190, 191, 192, 193, 194, 195, 196, 197, 198] (by decide +kernel) (by decide +kernel)
set_option maxRecDepth 20000 in
theorem gL_law_X0_register : GoodIn wsL_law (wsV RL 53 RX0 yX0_register wsX0_register) := goodIn_app (goodIn_of _ (by decide +kernel)) ggL_law_X0_register
set_option maxRecDepth 20000 in
theorem ggL_law_X1_register : GoodIn wsL_law wsX1_register := goodIn_r _ [202, 103, 53, 54, 5, 55, 56, 57, 58, 59, 60, 61, 62, 63, 64, 65, 66, 67, 68, 69, 70, 71, 72, 73, 74, 75, 76, 77, 78, 79, 80, 81] (by decide +kernel) (by decide +kernel)
set_option maxRecDepth 20000 in
theorem gL_law_X1_register : GoodIn wsL_law (wsV RL 56 RX1 yX1_register wsX1_register) := goodIn_app (goodIn_of _ (by decide +kernel)) ggL_law_X1_register
theorem dL_law_0 : decode cL_law 0 = .ok (.new 7, 3) := by decide +kernel
theorem dL_law_3 : decode cL_law 3 = .ok (.dup, 1) := by decide +kernel
theorem dL_law_4 : decode cL_law 4 = .ok (.invokespecial 9, 3) := by decide +kernel
theorem dL_law_7 : decode cL_law 7 = .ok (.astore_n 1, 1) := by decide +kernel
theorem dL_law_8 : decode cL_law 8 = .ok (.new 10, 3) := by decide +kernel
theorem dL_law_11 : decode cL_law 11 = .ok (.dup, 1) := by decide +kernel
theorem dL_law_12 : decode cL_law 12 = .ok (.invokespecial 12, 3) := by decide +kernel
theorem dL_law_15 : decode cL_law 15 = .ok (.astore_n 2, 1) := by decide +kernel
theorem dL_law_16 : decode cL_law 16 = .ok (.iconst 0, 1) := by decide +kernel
theorem dL_law_17 : decode cL_law 17 = .ok (.istore_n 3, 1) := by decide +kernel
theorem dL_law_18 : decode cL_law 18 = .ok (.iload_n 3, 1) := by decide +kernel
theorem dL_law_19 : decode cL_law 19 = .ok (.aload_n 0, 1) := by decide +kernel
theorem dL_law_20 : decode cL_law 20 = .ok (.arraylength, 1) := by decide +kernel
theorem dL_law_21 : decode cL_law 21 = .ok (.bipush 6, 2) := by decide +kernel
theorem dL_law_23 : decode cL_law 23 = .ok (.isub, 1) := by decide +kernel
theorem dL_law_24 : decode cL_law 24 = .ok (.if_icmp .gt 453, 3) := by decide +kernel
theorem dL_law_27 : decode cL_law 27 = .ok (.aload_n 0, 1) := by decide +kernel
theorem dL_law_28 : decode cL_law 28 = .ok (.iload_n 3, 1) := by decide +kernel
theorem dL_law_29 : decode cL_law 29 = .ok (.iaload, 1) := by decide +kernel
theorem dL_law_30 : decode cL_law 30 = .ok (.bipush 15, 2) := by decide +kernel
theorem dL_law_32 : decode cL_law 32 = .ok (.iand, 1) := by decide +kernel
theorem dL_law_33 : decode cL_law 33 = .ok (.tableswitch 438 0 8 #[51, 74, 97, 130, 193, 216, 279, 382, 405], 51) := by decide +kernel
theorem dL_law_84 : decode cL_law 84 = .ok (.aload_n 1, 1) := by decide +kernel
theorem dL_law_85 : decode cL_law 85 = .ok (.aload_n 0, 1) := by decide +kernel
theorem dL_law_86 : decode cL_law 86 = .ok (.iload_n 3, 1) := by decide +kernel
theorem dL_law_87 : decode cL_law 87 = .ok (.iconst 1, 1) := by decide +kernel
theorem dL_law_88 : decode cL_law 88 = .ok (.iadd, 1) := by decide +kernel
theorem dL_law_89 : decode cL_law 89 = .ok (.iaload, 1) := by decide +kernel
theorem dL_law_90 : decode cL_law 90 = .ok (.invokevirtual 13, 3) := by decide +kernel
theorem dL_law_93 : decode cL_law 93 = .ok (.aload_n 2, 1) := by decide +kernel
theorem dL_law_94 : decode cL_law 94 = .ok (.aload_n 0, 1) := by decide +kernel
theorem dL_law_95 : decode cL_law 95 = .ok (.iload_n 3, 1) := by decide +kernel
theorem dL_law_96 : decode cL_law 96 = .ok (.iconst 1, 1) := by decide +kernel
theorem dL_law_97 : decode cL_law 97 = .ok (.iadd, 1) := by decide +kernel
theorem dL_law_98 : decode cL_law 98 = .ok (.iaload, 1) := by decide +kernel
theorem dL_law_99 : decode cL_law 99 = .ok (.invokevirtual 17, 3) := by decide +kernel
theorem dL_law_102 : decode cL_law 102 = .ok (.if_icmp .eq 369, 3) := by decide +kernel
theorem dL_law_105 : decode cL_law 105 = .ok (.iconst 0, 1) := by decide +kernel
theorem dL_law_106 : decode cL_law 106 = .ok (.ireturn, 1) := by decide +kernel
theorem dL_law_107 : decode cL_law 107 = .ok (.aload_n 1, 1) := by decide +kernel
theorem dL_law_108 : decode cL_law 108 = .ok (.aload_n 0, 1) := by decide +kernel
theorem dL_law_109 : decode cL_law 109 = .ok (.iload_n 3, 1) := by decide +kernel
theorem dL_law_110 : decode cL_law 110 = .ok (.iconst 1, 1) := by decide +kernel
theorem dL_law_111 : decode cL_law 111 = .ok (.iadd, 1) := by decide +kernel
theorem dL_law_112 : decode cL_law 112 = .ok (.iaload, 1) := by decide +kernel
theorem dL_law_113 : decode cL_law 113 = .ok (.invokevirtual 18, 3) := by decide +kernel
theorem dL_law_116 : decode cL_law 116 = .ok (.pop, 1) := by decide +kernel
theorem dL_law_117 : decode cL_law 117 = .ok (.aload_n 2, 1) := by decide +kernel
theorem dL_law_118 : decode cL_law 118 = .ok (.aload_n 0, 1) := by decide +kernel
theorem dL_law_119 : decode cL_law 119 = .ok (.iload_n 3, 1) := by decide +kernel
theorem dL_law_120 : decode cL_law 120 = .ok (.iconst 1, 1) := by decide +kernel
theorem dL_law_121 : decode cL_law 121 = .ok (.iadd, 1) := by decide +kernel
theorem dL_law_122 : decode cL_law 122 = .ok (.iaload, 1) := by decide +kernel
theorem dL_law_123 : decode cL_law 123 = .ok (.invokevirtual 21, 3) := by decide +kernel
theorem dL_law_126 : decode cL_law 126 = .ok (.pop, 1) := by decide +kernel
theorem dL_law_127 : decode cL_law 127 = .ok (.goto 344, 3) := by decide +kernel
theorem dL_law_130 : decode cL_law 130 = .ok (.aload_n 1, 1) := by decide +kernel
theorem dL_law_131 : decode cL_law 131 = .ok (.aload_n 0, 1) := by decide +kernel
theorem dL_law_132 : decode cL_law 132 = .ok (.iload_n 3, 1) := by decide +kernel
theorem dL_law_133 : decode cL_law 133 = .ok (.iconst 1, 1) := by decide +kernel
theorem dL_law_134 : decode cL_law 134 = .ok (.iadd, 1) := by decide +kernel
theorem dL_law_135 : decode cL_law 135 = .ok (.iaload, 1) := by decide +kernel
theorem dL_law_136 : decode cL_law 136 = .ok (.aload_n 0, 1) := by decide +kernel
theorem dL_law_137 : decode cL_law 137 = .ok (.iload_n 3, 1) := by decide +kernel
theorem dL_law_138 : decode cL_law 138 = .ok (.iconst 2, 1) := by decide +kernel
theorem dL_law_139 : decode cL_law 139 = .ok (.iadd, 1) := by decide +kernel
theorem dL_law_140 : decode cL_law 140 = .ok (.iaload, 1) := by decide +kernel
theorem dL_law_141 : decode cL_law 141 = .ok (.invokevirtual 22, 3) := by decide +kernel
theorem dL_law_144 : decode cL_law 144 = .ok (.pop, 1) := by decide +kernel
theorem dL_law_145 : decode cL_law 145 = .ok (.aload_n 2, 1) := by decide +kernel
theorem dL_law_146 : decode cL_law 146 = .ok (.aload_n 0, 1) := by decide +kernel
theorem dL_law_147 : decode cL_law 147 = .ok (.iload_n 3, 1) := by decide +kernel
theorem dL_law_148 : decode cL_law 148 = .ok (.iconst 1, 1) := by decide +kernel
theorem dL_law_149 : decode cL_law 149 = .ok (.iadd, 1) := by decide +kernel
theorem dL_law_150 : decode cL_law 150 = .ok (.iaload, 1) := by decide +kernel
theorem dL_law_151 : decode cL_law 151 = .ok (.aload_n 0, 1) := by decide +kernel
theorem dL_law_152 : decode cL_law 152 = .ok (.iload_n 3, 1) := by decide +kernel
theorem dL_law_153 : decode cL_law 153 = .ok (.iconst 2, 1) := by decide +kernel
theorem dL_law_154 : decode cL_law 154 = .ok (.iadd, 1) := by decide +kernel
theorem dL_law_155 : decode cL_law 155 = .ok (.iaload, 1) := by decide +kernel
theorem dL_law_156 : decode cL_law 156 = .ok (.invokevirtual 26, 3) := by decide +kernel
theorem dL_law_159 : decode cL_law 159 = .ok (.pop, 1) := by decide +kernel
theorem dL_law_160 : decode cL_law 160 = .ok (.goto 311, 3) := by decide +kernel
theorem dL_law_163 : decode cL_law 163 = .ok (.aload_n 1, 1) := by decide +kernel
theorem dL_law_164 : decode cL_law 164 = .ok (.aload_n 0, 1) := by decide +kernel
theorem dL_law_165 : decode cL_law 165 = .ok (.iload_n 3, 1) := by decide +kernel
theorem dL_law_166 : decode cL_law 166 = .ok (.iconst 1, 1) := by decide +kernel
theorem dL_law_167 : decode cL_law 167 = .ok (.iadd, 1) := by decide +kernel
theorem dL_law_168 : decode cL_law 168 = .ok (.iaload, 1) := by decide +kernel
theorem dL_law_169 : decode cL_law 169 = .ok (.aload_n 0, 1) := by decide +kernel
theorem dL_law_170 : decode cL_law 170 = .ok (.iload_n 3, 1) := by decide +kernel
theorem dL_law_171 : decode cL_law 171 = .ok (.iconst 2, 1) := by decide +kernel
theorem dL_law_172 : decode cL_law 172 = .ok (.iadd, 1) := by decide +kernel
theorem dL_law_173 : decode cL_law 173 = .ok (.iaload, 1) := by decide +kernel
theorem dL_law_174 : decode cL_law 174 = .ok (.i2l, 1) := by decide +kernel
theorem dL_law_175 : decode cL_law 175 = .ok (.bipush 32, 2) := by decide +kernel
theorem dL_law_177 : decode cL_law 177 = .ok (.lshl, 1) := by decide +kernel
theorem dL_law_178 : decode cL_law 178 = .ok (.aload_n 0, 1) := by decide +kernel
theorem dL_law_179 : decode cL_law 179 = .ok (.iload_n 3, 1) := by decide +kernel
theorem dL_law_180 : decode cL_law 180 = .ok (.iconst 3, 1) := by decide +kernel
theorem dL_law_181 : decode cL_law 181 = .ok (.iadd, 1) := by decide +kernel
theorem dL_law_182 : decode cL_law 182 = .ok (.iaload, 1) := by decide +kernel
theorem dL_law_183 : decode cL_law 183 = .ok (.i2l, 1) := by decide +kernel
theorem dL_law_184 : decode cL_law 184 = .ok (.ldc2_w 27, 3) := by decide +kernel
theorem dL_law_187 : decode cL_law 187 = .ok (.land, 1) := by decide +kernel
theorem dL_law_188 : decode cL_law 188 = .ok (.lor, 1) := by decide +kernel
theorem dL_law_189 : decode cL_law 189 = .ok (.invokevirtual 29, 3) := by decide +kernel
theorem dL_law_192 : decode cL_law 192 = .ok (.pop, 1) := by decide +kernel
theorem dL_law_193 : decode cL_law 193 = .ok (.aload_n 2, 1) := by decide +kernel
theorem dL_law_194 : decode cL_law 194 = .ok (.aload_n 0, 1) := by decide +kernel
theorem dL_law_195 : decode cL_law 195 = .ok (.iload_n 3, 1) := by decide +kernel
theorem dL_law_196 : decode cL_law 196 = .ok (.iconst 1, 1) := by decide +kernel
theorem dL_law_197 : decode cL_law 197 = .ok (.iadd, 1) := by decide +kernel
theorem dL_law_198 : decode cL_law 198 = .ok (.iaload, 1) := by decide +kernel
theorem dL_law_199 : decode cL_law 199 = .ok (.aload_n 0, 1) := by decide +kernel
theorem dL_law_200 : decode cL_law 200 = .ok (.iload_n 3, 1) := by decide +kernel
theorem dL_law_201 : decode cL_law 201 = .ok (.iconst 2, 1) := by decide +kernel
theorem dL_law_202 : decode cL_law 202 = .ok (.iadd, 1) := by decide +kernel
theorem dL_law_203 : decode cL_law 203 = .ok (.iaload, 1) := by decide +kernel
theorem dL_law_204 : decode cL_law 204 = .ok (.i2l, 1) := by decide +kernel
theorem dL_law_205 : decode cL_law 205 = .ok (.bipush 32, 2) := by decide +kernel
end
section
theorem dL_law_207 : decode cL_law 207 = .ok (.lshl, 1) := by decide +kernel
theorem dL_law_208 : decode cL_law 208 = .ok (.aload_n 0, 1) := by decide +kernel
theorem dL_law_209 : decode cL_law 209 = .ok (.iload_n 3, 1) := by decide +kernel
theorem dL_law_210 : decode cL_law 210 = .ok (.iconst 3, 1) := by decide +kernel
theorem dL_law_211 : decode cL_law 211 = .ok (.iadd, 1) := by decide +kernel
theorem dL_law_212 : decode cL_law 212 = .ok (.iaload, 1) := by decide +kernel
theorem dL_law_213 : decode cL_law 213 = .ok (.i2l, 1) := by decide +kernel
theorem dL_law_214 : decode cL_law 214 = .ok (.ldc2_w 27, 3) := by decide +kernel
theorem dL_law_217 : decode cL_law 217 = .ok (.land, 1) := by decide +kernel
theorem dL_law_218 : decode cL_law 218 = .ok (.lor, 1) := by decide +kernel
theorem dL_law_219 : decode cL_law 219 = .ok (.invokevirtual 33, 3) := by decide +kernel
theorem dL_law_222 : decode cL_law 222 = .ok (.pop, 1) := by decide +kernel
theorem dL_law_223 : decode cL_law 223 = .ok (.goto 248, 3) := by decide +kernel
theorem dL_law_226 : decode cL_law 226 = .ok (.aload_n 1, 1) := by decide +kernel
theorem dL_law_227 : decode cL_law 227 = .ok (.aload_n 0, 1) := by decide +kernel
theorem dL_law_228 : decode cL_law 228 = .ok (.iload_n 3, 1) := by decide +kernel
theorem dL_law_229 : decode cL_law 229 = .ok (.iconst 1, 1) := by decide +kernel
theorem dL_law_230 : decode cL_law 230 = .ok (.iadd, 1) := by decide +kernel
theorem dL_law_231 : decode cL_law 231 = .ok (.iaload, 1) := by decide +kernel
theorem dL_law_232 : decode cL_law 232 = .ok (.invokevirtual 34, 3) := by decide +kernel
theorem dL_law_235 : decode cL_law 235 = .ok (.pop, 1) := by decide +kernel
theorem dL_law_236 : decode cL_law 236 = .ok (.aload_n 2, 1) := by decide +kernel
theorem dL_law_237 : decode cL_law 237 = .ok (.aload_n 0, 1) := by decide +kernel
theorem dL_law_238 : decode cL_law 238 = .ok (.iload_n 3, 1) := by decide +kernel
theorem dL_law_239 : decode cL_law 239 = .ok (.iconst 1, 1) := by decide +kernel
theorem dL_law_240 : decode cL_law 240 = .ok (.iadd, 1) := by decide +kernel
theorem dL_law_241 : decode cL_law 241 = .ok (.iaload, 1) := by decide +kernel
theorem dL_law_242 : decode cL_law 242 = .ok (.invokevirtual 37, 3) := by decide +kernel
theorem dL_law_245 : decode cL_law 245 = .ok (.pop, 1) := by decide +kernel
theorem dL_law_246 : decode cL_law 246 = .ok (.goto 225, 3) := by decide +kernel
theorem dL_law_249 : decode cL_law 249 = .ok (.aload_n 1, 1) := by decide +kernel
theorem dL_law_250 : decode cL_law 250 = .ok (.aload_n 0, 1) := by decide +kernel
theorem dL_law_251 : decode cL_law 251 = .ok (.iload_n 3, 1) := by decide +kernel
theorem dL_law_252 : decode cL_law 252 = .ok (.iconst 1, 1) := by decide +kernel
theorem dL_law_253 : decode cL_law 253 = .ok (.iadd, 1) := by decide +kernel
theorem dL_law_254 : decode cL_law 254 = .ok (.iaload, 1) := by decide +kernel
theorem dL_law_255 : decode cL_law 255 = .ok (.aload_n 0, 1) := by decide +kernel
theorem dL_law_256 : decode cL_law 256 = .ok (.iload_n 3, 1) := by decide +kernel
theorem dL_law_257 : decode cL_law 257 = .ok (.iconst 2, 1) := by decide +kernel
theorem dL_law_258 : decode cL_law 258 = .ok (.iadd, 1) := by decide +kernel
theorem dL_law_259 : decode cL_law 259 = .ok (.iaload, 1) := by decide +kernel
theorem dL_law_260 : decode cL_law 260 = .ok (.i2l, 1) := by decide +kernel
theorem dL_law_261 : decode cL_law 261 = .ok (.bipush 32, 2) := by decide +kernel
theorem dL_law_263 : decode cL_law 263 = .ok (.lshl, 1) := by decide +kernel
theorem dL_law_264 : decode cL_law 264 = .ok (.aload_n 0, 1) := by decide +kernel
theorem dL_law_265 : decode cL_law 265 = .ok (.iload_n 3, 1) := by decide +kernel
theorem dL_law_266 : decode cL_law 266 = .ok (.iconst 3, 1) := by decide +kernel
theorem dL_law_267 : decode cL_law 267 = .ok (.iadd, 1) := by decide +kernel
theorem dL_law_268 : decode cL_law 268 = .ok (.iaload, 1) := by decide +kernel
theorem dL_law_269 : decode cL_law 269 = .ok (.i2l, 1) := by decide +kernel
theorem dL_law_270 : decode cL_law 270 = .ok (.ldc2_w 27, 3) := by decide +kernel
theorem dL_law_273 : decode cL_law 273 = .ok (.land, 1) := by decide +kernel
theorem dL_law_274 : decode cL_law 274 = .ok (.lor, 1) := by decide +kernel
theorem dL_law_275 : decode cL_law 275 = .ok (.invokevirtual 38, 3) := by decide +kernel
theorem dL_law_278 : decode cL_law 278 = .ok (.pop2, 1) := by decide +kernel
theorem dL_law_279 : decode cL_law 279 = .ok (.aload_n 2, 1) := by decide +kernel
theorem dL_law_280 : decode cL_law 280 = .ok (.aload_n 0, 1) := by decide +kernel
theorem dL_law_281 : decode cL_law 281 = .ok (.iload_n 3, 1) := by decide +kernel
theorem dL_law_282 : decode cL_law 282 = .ok (.iconst 1, 1) := by decide +kernel
theorem dL_law_283 : decode cL_law 283 = .ok (.iadd, 1) := by decide +kernel
theorem dL_law_284 : decode cL_law 284 = .ok (.iaload, 1) := by decide +kernel
theorem dL_law_285 : decode cL_law 285 = .ok (.aload_n 0, 1) := by decide +kernel
theorem dL_law_286 : decode cL_law 286 = .ok (.iload_n 3, 1) := by decide +kernel
theorem dL_law_287 : decode cL_law 287 = .ok (.iconst 2, 1) := by decide +kernel
theorem dL_law_288 : decode cL_law 288 = .ok (.iadd, 1) := by decide +kernel
theorem dL_law_289 : decode cL_law 289 = .ok (.iaload, 1) := by decide +kernel
theorem dL_law_290 : decode cL_law 290 = .ok (.i2l, 1) := by decide +kernel
theorem dL_law_291 : decode cL_law 291 = .ok (.bipush 32, 2) := by decide +kernel
theorem dL_law_293 : decode cL_law 293 = .ok (.lshl, 1) := by decide +kernel
theorem dL_law_294 : decode cL_law 294 = .ok (.aload_n 0, 1) := by decide +kernel
theorem dL_law_295 : decode cL_law 295 = .ok (.iload_n 3, 1) := by decide +kernel
theorem dL_law_296 : decode cL_law 296 = .ok (.iconst 3, 1) := by decide +kernel
theorem dL_law_297 : decode cL_law 297 = .ok (.iadd, 1) := by decide +kernel
theorem dL_law_298 : decode cL_law 298 = .ok (.iaload, 1) := by decide +kernel
theorem dL_law_299 : decode cL_law 299 = .ok (.i2l, 1) := by decide +kernel
theorem dL_law_300 : decode cL_law 300 = .ok (.ldc2_w 27, 3) := by decide +kernel
theorem dL_law_303 : decode cL_law 303 = .ok (.land, 1) := by decide +kernel
theorem dL_law_304 : decode cL_law 304 = .ok (.lor, 1) := by decide +kernel
theorem dL_law_305 : decode cL_law 305 = .ok (.invokevirtual 42, 3) := by decide +kernel
theorem dL_law_308 : decode cL_law 308 = .ok (.pop2, 1) := by decide +kernel
theorem dL_law_309 : decode cL_law 309 = .ok (.goto 162, 3) := by decide +kernel
theorem dL_law_312 : decode cL_law 312 = .ok (.aload_n 1, 1) := by decide +kernel
theorem dL_law_313 : decode cL_law 313 = .ok (.aload_n 0, 1) := by decide +kernel
theorem dL_law_314 : decode cL_law 314 = .ok (.iload_n 3, 1) := by decide +kernel
theorem dL_law_315 : decode cL_law 315 = .ok (.iconst 1, 1) := by decide +kernel
theorem dL_law_316 : decode cL_law 316 = .ok (.iadd, 1) := by decide +kernel
theorem dL_law_317 : decode cL_law 317 = .ok (.iaload, 1) := by decide +kernel
theorem dL_law_318 : decode cL_law 318 = .ok (.aload_n 0, 1) := by decide +kernel
theorem dL_law_319 : decode cL_law 319 = .ok (.iload_n 3, 1) := by decide +kernel
theorem dL_law_320 : decode cL_law 320 = .ok (.iconst 2, 1) := by decide +kernel
theorem dL_law_321 : decode cL_law 321 = .ok (.iadd, 1) := by decide +kernel
theorem dL_law_322 : decode cL_law 322 = .ok (.iaload, 1) := by decide +kernel
theorem dL_law_323 : decode cL_law 323 = .ok (.i2l, 1) := by decide +kernel
theorem dL_law_324 : decode cL_law 324 = .ok (.bipush 32, 2) := by decide +kernel
theorem dL_law_326 : decode cL_law 326 = .ok (.lshl, 1) := by decide +kernel
theorem dL_law_327 : decode cL_law 327 = .ok (.aload_n 0, 1) := by decide +kernel
theorem dL_law_328 : decode cL_law 328 = .ok (.iload_n 3, 1) := by decide +kernel
theorem dL_law_329 : decode cL_law 329 = .ok (.iconst 3, 1) := by decide +kernel
theorem dL_law_330 : decode cL_law 330 = .ok (.iadd, 1) := by decide +kernel
theorem dL_law_331 : decode cL_law 331 = .ok (.iaload, 1) := by decide +kernel
theorem dL_law_332 : decode cL_law 332 = .ok (.i2l, 1) := by decide +kernel
theorem dL_law_333 : decode cL_law 333 = .ok (.ldc2_w 27, 3) := by decide +kernel
theorem dL_law_336 : decode cL_law 336 = .ok (.land, 1) := by decide +kernel
theorem dL_law_337 : decode cL_law 337 = .ok (.lor, 1) := by decide +kernel
theorem dL_law_338 : decode cL_law 338 = .ok (.aload_n 0, 1) := by decide +kernel
theorem dL_law_339 : decode cL_law 339 = .ok (.iload_n 3, 1) := by decide +kernel
theorem dL_law_340 : decode cL_law 340 = .ok (.iconst 4, 1) := by decide +kernel
theorem dL_law_341 : decode cL_law 341 = .ok (.iadd, 1) := by decide +kernel
theorem dL_law_342 : decode cL_law 342 = .ok (.iaload, 1) := by decide +kernel
theorem dL_law_343 : decode cL_law 343 = .ok (.i2l, 1) := by decide +kernel
theorem dL_law_344 : decode cL_law 344 = .ok (.bipush 32, 2) := by decide +kernel
theorem dL_law_346 : decode cL_law 346 = .ok (.lshl, 1) := by decide +kernel
theorem dL_law_347 : decode cL_law 347 = .ok (.aload_n 0, 1) := by decide +kernel
theorem dL_law_348 : decode cL_law 348 = .ok (.iload_n 3, 1) := by decide +kernel
theorem dL_law_349 : decode cL_law 349 = .ok (.iconst 5, 1) := by decide +kernel
theorem dL_law_350 : decode cL_law 350 = .ok (.iadd, 1) := by decide +kernel
theorem dL_law_351 : decode cL_law 351 = .ok (.iaload, 1) := by decide +kernel
theorem dL_law_352 : decode cL_law 352 = .ok (.i2l, 1) := by decide +kernel
theorem dL_law_353 : decode cL_law 353 = .ok (.ldc2_w 27, 3) := by decide +kernel
theorem dL_law_356 : decode cL_law 356 = .ok (.land, 1) := by decide +kernel
theorem dL_law_357 : decode cL_law 357 = .ok (.lor, 1) := by decide +kernel
theorem dL_law_358 : decode cL_law 358 = .ok (.invokevirtual 43, 3) := by decide +kernel
theorem dL_law_361 : decode cL_law 361 = .ok (.pop, 1) := by decide +kernel
theorem dL_law_362 : decode cL_law 362 = .ok (.aload_n 2, 1) := by decide +kernel
theorem dL_law_363 : decode cL_law 363 = .ok (.aload_n 0, 1) := by decide +kernel
theorem dL_law_364 : decode cL_law 364 = .ok (.iload_n 3, 1) := by decide +kernel
theorem dL_law_365 : decode cL_law 365 = .ok (.iconst 1, 1) := by decide +kernel
theorem dL_law_366 : decode cL_law 366 = .ok (.iadd, 1) := by decide +kernel
theorem dL_law_367 : decode cL_law 367 = .ok (.iaload, 1) := by decide +kernel
theorem dL_law_368 : decode cL_law 368 = .ok (.aload_n 0, 1) := by decide +kernel
theorem dL_law_369 : decode cL_law 369 = .ok (.iload_n 3, 1) := by decide +kernel
theorem dL_law_370 : decode cL_law 370 = .ok (.iconst 2, 1) := by decide +kernel
theorem dL_law_371 : decode cL_law 371 = .ok (.iadd, 1) := by decide +kernel
theorem dL_law_372 : decode cL_law 372 = .ok (.iaload, 1) := by decide +kernel
theorem dL_law_373 : decode cL_law 373 = .ok (.i2l, 1) := by decide +kernel
theorem dL_law_374 : decode cL_law 374 = .ok (.bipush 32, 2) := by decide +kernel
theorem dL_law_376 : decode cL_law 376 = .ok (.lshl, 1) := by decide +kernel
theorem dL_law_377 : decode cL_law 377 = .ok (.aload_n 0, 1) := by decide +kernel
theorem dL_law_378 : decode cL_law 378 = .ok (.iload_n 3, 1) := by decide +kernel
theorem dL_law_379 : decode cL_law 379 = .ok (.iconst 3, 1) := by decide +kernel
theorem dL_law_380 : decode cL_law 380 = .ok (.iadd, 1) := by decide +kernel
theorem dL_law_381 : decode cL_law 381 = .ok (.iaload, 1) := by decide +kernel
theorem dL_law_382 : decode cL_law 382 = .ok (.i2l, 1) := by decide +kernel
theorem dL_law_383 : decode cL_law 383 = .ok (.ldc2_w 27, 3) := by decide +kernel
theorem dL_law_386 : decode cL_law 386 = .ok (.land, 1) := by decide +kernel
theorem dL_law_387 : decode cL_law 387 = .ok (.lor, 1) := by decide +kernel
theorem dL_law_388 : decode cL_law 388 = .ok (.aload_n 0, 1) := by decide +kernel
theorem dL_law_389 : decode cL_law 389 = .ok (.iload_n 3, 1) := by decide +kernel
theorem dL_law_390 : decode cL_law 390 = .ok (.iconst 4, 1) := by decide +kernel
theorem dL_law_391 : decode cL_law 391 = .ok (.iadd, 1) := by decide +kernel
theorem dL_law_392 : decode cL_law 392 = .ok (.iaload, 1) := by decide +kernel
theorem dL_law_393 : decode cL_law 393 = .ok (.i2l, 1) := by decide +kernel
theorem dL_law_394 : decode cL_law 394 = .ok (.bipush 32, 2) := by decide +kernel
theorem dL_law_396 : decode cL_law 396 = .ok (.lshl, 1) := by decide +kernel
theorem dL_law_397 : decode cL_law 397 = .ok (.aload_n 0, 1) := by decide +kernel
theorem dL_law_398 : decode cL_law 398 = .ok (.iload_n 3, 1) := by decide +kernel
theorem dL_law_399 : decode cL_law 399 = .ok (.iconst 5, 1) := by decide +kernel
theorem dL_law_400 : decode cL_law 400 = .ok (.iadd, 1) := by decide +kernel
theorem dL_law_401 : decode cL_law 401 = .ok (.iaload, 1) := by decide +kernel
theorem dL_law_402 : decode cL_law 402 = .ok (.i2l, 1) := by decide +kernel
theorem dL_law_403 : decode cL_law 403 = .ok (.ldc2_w 27, 3) := by decide +kernel
theorem dL_law_406 : decode cL_law 406 = .ok (.land, 1) := by decide +kernel
theorem dL_law_407 : decode cL_law 407 = .ok (.lor, 1) := by decide +kernel
theorem dL_law_408 : decode cL_law 408 = .ok (.invokevirtual 47, 3) := by decide +kernel
theorem dL_law_411 : decode cL_law 411 = .ok (.pop, 1) := by decide +kernel
theorem dL_law_412 : decode cL_law 412 = .ok (.goto 59, 3) := by decide +kernel
theorem dL_law_415 : decode cL_law 415 = .ok (.aload_n 1, 1) := by decide +kernel
theorem dL_law_416 : decode cL_law 416 = .ok (.aload_n 0, 1) := by decide +kernel
theorem dL_law_417 : decode cL_law 417 = .ok (.iload_n 3, 1) := by decide +kernel
theorem dL_law_418 : decode cL_law 418 = .ok (.iconst 1, 1) := by decide +kernel
theorem dL_law_419 : decode cL_law 419 = .ok (.iadd, 1) := by decide +kernel
theorem dL_law_420 : decode cL_law 420 = .ok (.iaload, 1) := by decide +kernel
theorem dL_law_421 : decode cL_law 421 = .ok (.invokevirtual 48, 3) := by decide +kernel
theorem dL_law_424 : decode cL_law 424 = .ok (.pop, 1) := by decide +kernel
theorem dL_law_425 : decode cL_law 425 = .ok (.aload_n 2, 1) := by decide +kernel
theorem dL_law_426 : decode cL_law 426 = .ok (.aload_n 0, 1) := by decide +kernel
theorem dL_law_427 : decode cL_law 427 = .ok (.iload_n 3, 1) := by decide +kernel
theorem dL_law_428 : decode cL_law 428 = .ok (.iconst 1, 1) := by decide +kernel
theorem dL_law_429 : decode cL_law 429 = .ok (.iadd, 1) := by decide +kernel
theorem dL_law_430 : decode cL_law 430 = .ok (.iaload, 1) := by decide +kernel
theorem dL_law_431 : decode cL_law 431 = .ok (.invokevirtual 52, 3) := by decide +kernel
theorem dL_law_434 : decode cL_law 434 = .ok (.pop, 1) := by decide +kernel
theorem dL_law_435 : decode cL_law 435 = .ok (.goto 36, 3) := by decide +kernel
theorem dL_law_438 : decode cL_law 438 = .ok (.aload_n 1, 1) := by decide +kernel
theorem dL_law_439 : decode cL_law 439 = .ok (.aload_n 0, 1) := by decide +kernel
theorem dL_law_440 : decode cL_law 440 = .ok (.iload_n 3, 1) := by decide +kernel
theorem dL_law_441 : decode cL_law 441 = .ok (.iconst 1, 1) := by decide +kernel
theorem dL_law_442 : decode cL_law 442 = .ok (.iadd, 1) := by decide +kernel
theorem dL_law_443 : decode cL_law 443 = .ok (.iaload, 1) := by decide +kernel
theorem dL_law_444 : decode cL_law 444 = .ok (.aload_n 0, 1) := by decide +kernel
theorem dL_law_445 : decode cL_law 445 = .ok (.iload_n 3, 1) := by decide +kernel
theorem dL_law_446 : decode cL_law 446 = .ok (.iconst 2, 1) := by decide +kernel
theorem dL_law_447 : decode cL_law 447 = .ok (.iadd, 1) := by decide +kernel
theorem dL_law_448 : decode cL_law 448 = .ok (.iaload, 1) := by decide +kernel
theorem dL_law_449 : decode cL_law 449 = .ok (.invokevirtual 53, 3) := by decide +kernel
theorem dL_law_452 : decode cL_law 452 = .ok (.pop, 1) := by decide +kernel
theorem dL_law_453 : decode cL_law 453 = .ok (.aload_n 2, 1) := by decide +kernel
theorem dL_law_454 : decode cL_law 454 = .ok (.aload_n 0, 1) := by decide +kernel
theorem dL_law_455 : decode cL_law 455 = .ok (.iload_n 3, 1) := by decide +kernel
theorem dL_law_456 : decode cL_law 456 = .ok (.iconst 1, 1) := by decide +kernel
theorem dL_law_457 : decode cL_law 457 = .ok (.iadd, 1) := by decide +kernel
theorem dL_law_458 : decode cL_law 458 = .ok (.iaload, 1) := by decide +kernel
theorem dL_law_459 : decode cL_law 459 = .ok (.aload_n 0, 1) := by decide +kernel
theorem dL_law_460 : decode cL_law 460 = .ok (.iload_n 3, 1) := by decide +kernel
theorem dL_law_461 : decode cL_law 461 = .ok (.iconst 2, 1) := by decide +kernel
theorem dL_law_462 : decode cL_law 462 = .ok (.iadd, 1) := by decide +kernel
theorem dL_law_463 : decode cL_law 463 = .ok (.iaload, 1) := by decide +kernel
theorem dL_law_464 : decode cL_law 464 = .ok (.invokevirtual 56, 3) := by decide +kernel
theorem dL_law_467 : decode cL_law 467 = .ok (.pop, 1) := by decide +kernel
theorem dL_law_468 : decode cL_law 468 = .ok (.goto 3, 3) := by decide +kernel
theorem dL_law_471 : decode cL_law 471 = .ok (.iinc 3 6, 3) := by decide +kernel
theorem dL_law_474 : decode cL_law 474 = .ok (.goto (-456), 3) := by decide +kernel
theorem dL_law_477 : decode cL_law 477 = .ok (.iconst 1, 1) := by decide +kernel
theorem dL_law_478 : decode cL_law 478 = .ok (.ireturn, 1) := by decide +kernel
abbrev vwCl : List vw_C := [(RX0, TX0, 0), (RX1, TX1, 0)]
end
section
/-! the world of these methods: nothing that was there is ever changed -/
def fm_t : List Int32 := [528482304, 285212672, 522190848, 184549376, 520093696, 167772160, 528482304, 310378496, (-1627389952), (-1879048192), 2145386496, 452984832, 2145386496, 448790528, 2145388544, 444596224, 1056964608, 956301312, 1059122176, 941647872, (-33554432), (-1476395008), (-67108864), 335544320, (-67108864), (-1811939328), (-16777200), 1409286144, 2113929216, 872415232, 2113929216, 905969664, (-993), (-702611456), (-993), (-700514304), (-993), (-698417152), (-2097121), (-738197503), (-1), (-721215457)]
/-- an object of class C lies at a, in the heap H -/
def wv_lrc (C : String) (a : Nat) (s : State) (H : Heap) : Prop := ∃ cell : Cell, H[a]? = some cell ∧ cell.vm.isStatics = false ∧ s.vm.findClass C = some cell.cls
def wv_rcv (C : String) (a : Nat) (U : State) : Prop := ∃ cell : Cell, U.heap[a]? = some cell ∧ cell.vm.isStatics = false ∧ U.vm.findClass C = some cell.cls
/-- the static table of forms lies at t -/
def wv_tt (t : Nat) (U : State) : Prop := va_Z "WordForms" "FORMS" "[I" (.ref t) (fun q : Nat => U.heap.size ≤ q) U U.heap ∧ va_T .int t 42 (fun j => Value.int (fm_t.getD j 0)) (fun q : Nat => U.heap.size ≤ q) U U.heap
theorem wv_rcv.at {C : String} {a : Nat} {s : State} {H : Heap} {locs : List Loc} (h : wv_rcv C a s) (hS : va_S (fun q : Nat => s.heap.size ≤ q) s.heap H locs) : ∃ cell : Cell, H[a]? = some cell ∧ cell.vm.isStatics = false ∧ s.vm.findClass C = some cell.cls := by
  obtain ⟨cell, h1, h2, h3⟩ := h
  have hlt := (Array.getElem?_eq_some_iff.mp h1).1
  exact ⟨cell, by rw [hS.2.1 a hlt (Nat.not_le.mpr hlt)]; exact h1, h2, h3⟩
theorem wv_lrc.go {C : String} {a : Nat} {s U : State} {H : Heap} (h : wv_lrc C a s H) (hU : U.heap = H) (hvm : s.vm.Alike U.vm) : wv_rcv C a U := by
  obtain ⟨cell, h1, h2, h3⟩ := h
  exact ⟨cell, by rw [hU]; exact h1, h2, by rw [hvm.findClass]; exact h3⟩
theorem wv_lrc.keep {C : String} {a : Nat} {s : State} {H H1 : Heap} (h : wv_lrc C a s H) (hk : ∀ q : Nat, q < H.size → ¬ (H.size ≤ q) → H1[q]? = H[q]?) : wv_lrc C a s H1 := by
  obtain ⟨cell, h1, h2, h3⟩ := h
  have hlt := (Array.getElem?_eq_some_iff.mp h1).1
  exact ⟨cell, by rw [hk a hlt (Nat.not_le.mpr hlt)]; exact h1, h2, h3⟩
theorem wv_rcv.go {C : String} {a : Nat} {s U : State} {H : Heap} {locs : List Loc} (h : wv_rcv C a s) (hS : va_S (fun q : Nat => s.heap.size ≤ q) s.heap H locs) (hU : U.heap = H) (hvm : s.vm.Alike U.vm) : wv_rcv C a U :=
  wv_lrc.go (h.at hS) hU hvm
theorem wv_tt.go {t : Nat} {s U : State} {H : Heap} {locs : List Loc} (h : wv_tt t s) (hS : va_S (fun q : Nat => s.heap.size ≤ q) s.heap H locs) (hU : U.heap = H) (hvm : s.vm.Alike U.vm) : wv_tt t U := by
  subst hU
  exact ⟨((va_Z.moved hvm h.1).kept hS.2.1).narrow (fun _ hq => Nat.le_trans hS.1 hq), ((va_T.moved hvm h.2).kept hS.2.1).narrow (fun _ hq => Nat.le_trans hS.1 hq)⟩
theorem fb_pure {av : List Value} {sz : Nat} : FrameBlind (va_Pc av (fun U => U.heap.size = sz)) := fun _ _ _ _ q => q
theorem fb_tt {av : List Value} {sz t : Nat} : FrameBlind (va_Pc av (fun U => U.heap.size = sz ∧ wv_tt t U)) := fun a U g mk q => ⟨q.1, q.2.1, va_Z.moved (u := U) (U := U.calling g mk a) (Vm.Alike.refl U.vm) q.2.2.1, va_T.moved (u := U) (U := U.calling g mk a) (Vm.Alike.refl U.vm) q.2.2.2⟩
theorem fb_rr {av : List Value} {C : String} {sz h0 : Nat} : FrameBlind (va_Pc av (fun U => U.heap.size = sz ∧ wv_rcv C h0 U)) := fun _ _ _ _ q => ⟨q.1, q.2.1, q.2.2⟩
theorem fb_ww {av : List Value} {C : String} {sz h0 t : Nat} : FrameBlind (va_Pc av (fun U => U.heap.size = sz ∧ wv_rcv C h0 U ∧ wv_tt t U)) := fun a U g mk q => ⟨q.1, q.2.1, q.2.2.1, va_Z.moved (u := U) (U := U.calling g mk a) (Vm.Alike.refl U.vm) q.2.2.2.1, va_T.moved (u := U) (U := U.calling g mk a) (Vm.Alike.refl U.vm) q.2.2.2.2⟩
theorem nb_01 {v : Int32} (h : v = 0 ∨ v = 1) : narrow .boolean (.int v) = .int v := by
  rcases h with rfl | rfl <;> rfl
section SwDef
variable {p : Program} {l : Launch} {e : Env} {R : Room} {s : State} {m : MethodId} {args : Array Value} {below : List Frame} {meth : Method} {c : Code} {H : Heap} {locs : List Loc} {cells slots : Nat} {Q : State → Prop} {cc : ByteArray} {pc : Nat} {ls : Array Slot} {rest : List Value}
/-- a switch, at a number that none of its own cases names -/
theorem sw_def (hexec : p.tables.exec = Jvm.exec) (hb : c.code = cc) {dflt lo hi : Int} {offs : Array Int} {len : Nat} {x : Int32} {tgt : Nat} (hdg : decode cc pc = .ok (.tableswitch dflt lo hi offs, len)) (hsz : (offs.size : Int) = hi - lo + 1) (hd : ∀ k : Nat, k < offs.size → offs[k]? = some dflt ∨ ¬ x.toInt = lo + (k : Int)) (ht : (pc : Int) + dflt = (tgt : Int))
    (kk : W p l e R s m args below meth c H locs cells slots Q (F0 m tgt ls rest)) : W p l e R s m args below meth c H locs cells slots Q (F0 m pc ls (.int x :: rest)) := by
  by_cases h1 : x.toInt < lo
  · exact lv_tableOut hexec hb hdg (Or.inl h1) ht kk
  · by_cases h2 : hi < x.toInt
    · exact lv_tableOut hexec hb hdg (Or.inr h2) ht kk
    · rcases hd (x.toInt - lo).toNat (by omega) with h | h
      · exact lv_tableIn hexec hb hdg h1 h2 h ht kk
      · exact absurd (by omega) h
end SwDef
theorem cmp_0 {x y : Int64} (h : x = y) : lg_cmp x y = 0 := by
  subst h
  simp [lg_cmp]
theorem lw_six {L k : Nat} {x3 : Int32} (hL : L ≤ 3072) (hk : k ≤ L) (ex3 : x3 = nI k) (h : ¬ Int32.ofNat L - 6 < x3) : k + 6 ≤ L := by
  rcases Nat.lt_or_ge L (k + 6) with q | q
  · refine absurd ?_ h
    rw [ex3]
    refine Int32.lt_iff_toInt_lt.mpr ?_
    rw [show (Int32.ofNat L - 6 : Int32) = nI L - nI 6 from rfl, pk_sub_toInt (by omega) (by omega), nI_toInt (by omega)]
    omega
  · exact q
theorem lw_in {L k : Nat} {x3 : Int32} (hL : L ≤ 3072) (ex3 : x3 = nI k) (hk : k + 6 ≤ L) (j : Nat) (hj : j < 6) : vp_in (x3 + nI j) L := by
  rw [ex3, nI_add]
  exact vp_in_nI (by omega) (by omega)
end
section
def fX0_formOf (p0 : Int32) : Int32 :=
  if (p0 &&& (528482304 : Int32)) = (285212672 : Int32) then (((0 : Int32) / (2 : Int32)) + (1 : Int32)) else
  if (p0 &&& (522190848 : Int32)) = (184549376 : Int32) then (((2 : Int32) / (2 : Int32)) + (1 : Int32)) else
  if (p0 &&& (520093696 : Int32)) = (167772160 : Int32) then (((4 : Int32) / (2 : Int32)) + (1 : Int32)) else
  if (p0 &&& (528482304 : Int32)) = (310378496 : Int32) then (((6 : Int32) / (2 : Int32)) + (1 : Int32)) else
  if (p0 &&& (-1627389952 : Int32)) = (-1879048192 : Int32) then (((8 : Int32) / (2 : Int32)) + (1 : Int32)) else
  if (p0 &&& (2145386496 : Int32)) = (452984832 : Int32) then (((10 : Int32) / (2 : Int32)) + (1 : Int32)) else
  if (p0 &&& (2145386496 : Int32)) = (448790528 : Int32) then (((12 : Int32) / (2 : Int32)) + (1 : Int32)) else
  if (p0 &&& (2145388544 : Int32)) = (444596224 : Int32) then (((14 : Int32) / (2 : Int32)) + (1 : Int32)) else
  if (p0 &&& (1056964608 : Int32)) = (956301312 : Int32) then (((16 : Int32) / (2 : Int32)) + (1 : Int32)) else
  if (p0 &&& (1059122176 : Int32)) = (941647872 : Int32) then (((18 : Int32) / (2 : Int32)) + (1 : Int32)) else
  if (p0 &&& (-33554432 : Int32)) = (-1476395008 : Int32) then (((20 : Int32) / (2 : Int32)) + (1 : Int32)) else
  if (p0 &&& (-67108864 : Int32)) = (335544320 : Int32) then (((22 : Int32) / (2 : Int32)) + (1 : Int32)) else
  if (p0 &&& (-67108864 : Int32)) = (-1811939328 : Int32) then (((24 : Int32) / (2 : Int32)) + (1 : Int32)) else
  if (p0 &&& (-16777200 : Int32)) = (1409286144 : Int32) then (((26 : Int32) / (2 : Int32)) + (1 : Int32)) else
  if (p0 &&& (2113929216 : Int32)) = (872415232 : Int32) then (((28 : Int32) / (2 : Int32)) + (1 : Int32)) else
  if (p0 &&& (2113929216 : Int32)) = (905969664 : Int32) then (((30 : Int32) / (2 : Int32)) + (1 : Int32)) else
  if (p0 &&& (-993 : Int32)) = (-702611456 : Int32) then (((32 : Int32) / (2 : Int32)) + (1 : Int32)) else
  if (p0 &&& (-993 : Int32)) = (-700514304 : Int32) then (((34 : Int32) / (2 : Int32)) + (1 : Int32)) else
  if (p0 &&& (-993 : Int32)) = (-698417152 : Int32) then (((36 : Int32) / (2 : Int32)) + (1 : Int32)) else
  if (p0 &&& (-2097121 : Int32)) = (-738197503 : Int32) then (((38 : Int32) / (2 : Int32)) + (1 : Int32)) else
  if (p0 &&& (-1 : Int32)) = (-721215457 : Int32) then (((40 : Int32) / (2 : Int32)) + (1 : Int32)) else
  (0 : Int32)
def fX0_lowBits (p0 : Int32) : Int32 :=
  (((1 : Int32) <<< (p0 &&& 31)) - (1 : Int32))
def fX0_bits (p0 : Int32) (p1 : Int32) (p2 : Int32) : Int32 :=
  ((((p0).toUInt32 >>> ((p1).toUInt32 &&& Int32.toUInt32 31)).toInt32) &&& (fX0_lowBits p2))
def fX0_isLong (p0 : Int32) : Int32 :=
  if 0 ≤ p0 then (0 : Int32) else
  (1 : Int32)
theorem zX0_isLong (p0 : Int32) : fX0_isLong p0 = 0 ∨ fX0_isLong p0 = 1 := by
  unfold fX0_isLong
  repeat' split
  all_goals first | exact Or.inl rfl | exact Or.inr rfl
def fX0_isMovedWithin (p0 : Int32) : Int32 :=
  if (fX0_isLong p0) = 0 then (if (32 : Int32) ≤ (fX0_bits p0 (10 : Int32) (6 : Int32)) then (0 : Int32) else
    (1 : Int32)) else
  (1 : Int32)
theorem zX0_isMovedWithin (p0 : Int32) : fX0_isMovedWithin p0 = 0 ∨ fX0_isMovedWithin p0 = 1 := by
  unfold fX0_isMovedWithin
  repeat' split
  all_goals first | exact Or.inl rfl | exact Or.inr rfl
def fX0_isTwo (p0 : Int32) : Int32 :=
  if p0 = (2 : Int32) then (1 : Int32) else
  if p0 = (3 : Int32) then (1 : Int32) else
  if p0 < (8 : Int32) then (0 : Int32) else
  if (10 : Int32) < p0 then (0 : Int32) else
  (1 : Int32)
theorem zX0_isTwo (p0 : Int32) : fX0_isTwo p0 = 0 ∨ fX0_isTwo p0 = 1 := by
  unfold fX0_isTwo
  repeat' split
  all_goals first | exact Or.inl rfl | exact Or.inr rfl
def fX0_isCondition (p0 : Int32) : Int32 :=
  if (13 : Int32) < p0 then (0 : Int32) else
  (1 : Int32)
theorem zX0_isCondition (p0 : Int32) : fX0_isCondition p0 = 0 ∨ fX0_isCondition p0 = 1 := by
  unfold fX0_isCondition
  repeat' split
  all_goals first | exact Or.inl rfl | exact Or.inr rfl
def fX0_isLoad (p0 : Int32) (p1 : Int32) : Int32 :=
  if p1 = (2 : Int32) then (if p0 = (2 : Int32) then (1 : Int32) else
    (0 : Int32)) else
  if p1 = (3 : Int32) then (0 : Int32) else
  if p0 = (1 : Int32) then (0 : Int32) else
  (1 : Int32)
theorem zX0_isLoad (p0 : Int32) (p1 : Int32) : fX0_isLoad p0 p1 = 0 ∨ fX0_isLoad p0 p1 = 1 := by
  unfold fX0_isLoad
  repeat' split
  all_goals first | exact Or.inl rfl | exact Or.inr rfl
def fX0_isPair (p0 : Int32) : Int32 :=
  if (fX0_bits p0 (22 : Int32) (1 : Int32)) = (1 : Int32) then (if (fX0_bits p0 (23 : Int32) (2 : Int32)) = 0 then (0 : Int32) else
    if (fX0_bits p0 (0 : Int32) (5 : Int32)) = (fX0_bits p0 (10 : Int32) (5 : Int32)) then (0 : Int32) else
    if (fX0_bits p0 (23 : Int32) (2 : Int32)) = (2 : Int32) then (1 : Int32) else
    if (fX0_bits p0 (5 : Int32) (5 : Int32)) = (31 : Int32) then (1 : Int32) else
    if (fX0_bits p0 (5 : Int32) (5 : Int32)) = (fX0_bits p0 (0 : Int32) (5 : Int32)) then (0 : Int32) else
    if (fX0_bits p0 (5 : Int32) (5 : Int32)) = (fX0_bits p0 (10 : Int32) (5 : Int32)) then (0 : Int32) else
    (1 : Int32)) else
  if (fX0_bits p0 (23 : Int32) (2 : Int32)) = 0 then (0 : Int32) else
  if (fX0_bits p0 (23 : Int32) (2 : Int32)) = (2 : Int32) then (1 : Int32) else
  if (fX0_bits p0 (5 : Int32) (5 : Int32)) = (31 : Int32) then (1 : Int32) else
  if (fX0_bits p0 (5 : Int32) (5 : Int32)) = (fX0_bits p0 (0 : Int32) (5 : Int32)) then (0 : Int32) else
  if (fX0_bits p0 (5 : Int32) (5 : Int32)) = (fX0_bits p0 (10 : Int32) (5 : Int32)) then (0 : Int32) else
  (1 : Int32)
theorem zX0_isPair (p0 : Int32) : fX0_isPair p0 = 0 ∨ fX0_isPair p0 = 1 := by
  unfold fX0_isPair
  repeat' split
  all_goals first | exact Or.inl rfl | exact Or.inr rfl
def fX0_isAllowed (p0 : Int32) (p1 : Int32) : Int32 :=
  if p0 = (2 : Int32) then (if (fX0_bits p1 (22 : Int32) (2 : Int32)) = (3 : Int32) then (0 : Int32) else
    if (fX0_isMovedWithin p1) = 0 then (0 : Int32) else
    (1 : Int32)) else
  if p0 = (3 : Int32) then (fX0_isMovedWithin p1) else
  if p0 = (4 : Int32) then (if (fX0_bits p1 (29 : Int32) (2 : Int32)) = (1 : Int32) then (0 : Int32) else
    if (fX0_isLong p1) = 0 then (if (2 : Int32) ≤ (fX0_bits p1 (21 : Int32) (2 : Int32)) then (0 : Int32) else
      (1 : Int32)) else
    (1 : Int32)) else
  if p0 = (7 : Int32) then (fX0_isTwo (fX0_bits p1 (10 : Int32) (6 : Int32))) else
  if p0 = (8 : Int32) then (fX0_isCondition (fX0_bits p1 (12 : Int32) (4 : Int32))) else
  if p0 = (9 : Int32) then (fX0_isLoad (fX0_bits p1 (30 : Int32) (2 : Int32)) (fX0_bits p1 (22 : Int32) (2 : Int32))) else
  if p0 = (10 : Int32) then (fX0_isLoad (fX0_bits p1 (30 : Int32) (2 : Int32)) (fX0_bits p1 (22 : Int32) (2 : Int32))) else
  if p0 = (11 : Int32) then (fX0_isPair p1) else
  if p0 = (14 : Int32) then (fX0_isCondition (fX0_bits p1 (0 : Int32) (4 : Int32))) else
  (1 : Int32)
theorem zX0_isAllowed (p0 : Int32) (p1 : Int32) : fX0_isAllowed p0 p1 = 0 ∨ fX0_isAllowed p0 p1 = 1 := by
  unfold fX0_isAllowed
  repeat' split
  all_goals first | with_reducible exact zX0_isCondition .. | with_reducible exact zX0_isLoad .. | with_reducible exact zX0_isMovedWithin .. | with_reducible exact zX0_isPair .. | with_reducible exact zX0_isTwo .. | exact Or.inl rfl | exact Or.inr rfl
def fX0_kind (p0 : Int32) : Int32 :=
  if (fX0_isAllowed (fX0_formOf p0) p0) = 0 then (0 : Int32) else
  (fX0_formOf p0)
def fX0_isGoing (p0 : Int32) : Int32 :=
  if p0 < (12 : Int32) then (0 : Int32) else
  if (16 : Int32) < p0 then (0 : Int32) else
  (1 : Int32)
theorem zX0_isGoing (p0 : Int32) : fX0_isGoing p0 = 0 ∨ fX0_isGoing p0 = 1 := by
  unfold fX0_isGoing
  repeat' split
  all_goals first | exact Or.inl rfl | exact Or.inr rfl
def fX0_distancePlace (p0 : Int32) : Int32 :=
  if p0 = (12 : Int32) then (0 : Int32) else
  if p0 = (13 : Int32) then (0 : Int32) else
  (5 : Int32)
def fX0_distanceWidth (p0 : Int32) : Int32 :=
  if p0 = (12 : Int32) then (26 : Int32) else
  if p0 = (13 : Int32) then (26 : Int32) else
  if p0 = (16 : Int32) then (14 : Int32) else
  (19 : Int32)
def fX0_signedBits (p0 : Int32) (p1 : Int32) (p2 : Int32) : Int32 :=
  ((p0 <<< ((((32 : Int32) - p1) - p2) &&& 31)) >>> (((32 : Int32) - p2) &&& 31))
def fX0_by (p0 : Int32) : Int32 :=
  if (fX0_isGoing (fX0_kind p0)) = 0 then (1 : Int32) else
  ((fX0_signedBits p0 (fX0_distancePlace (fX0_kind p0)) (fX0_distanceWidth (fX0_kind p0))) * (4 : Int32))
def fX0_isWithinReach (p0 : Int32) (p1 : Int64) : Int32 :=
  if (fX0_isGoing p0) = 0 then (0 : Int32) else
  if (lg_cmp (p1 &&& (3 : Int64)) (0 : Int64)) = 0 then (if (lg_cmp p1 (-((1 : Int64) <<< ((((fX0_distanceWidth p0) + (1 : Int32))).toInt64 &&& 63)))) < 0 then (0 : Int32) else
    if 0 ≤ (lg_cmp p1 ((1 : Int64) <<< ((((fX0_distanceWidth p0) + (1 : Int32))).toInt64 &&& 63))) then (0 : Int32) else
    (1 : Int32)) else
  (0 : Int32)
theorem zX0_isWithinReach (p0 : Int32) (p1 : Int64) : fX0_isWithinReach p0 p1 = 0 ∨ fX0_isWithinReach p0 p1 = 1 := by
  unfold fX0_isWithinReach
  repeat' split
  all_goals first | exact Or.inl rfl | exact Or.inr rfl
def fX0_going (p0 : Int32) (p1 : Int32) : Int32 :=
  if (fX0_isWithinReach (fX0_kind p0) ((p1).toInt64)) = 0 then p0 else
  ((p0 &&& (((fX0_lowBits (fX0_distanceWidth (fX0_kind p0))) <<< ((fX0_distancePlace (fX0_kind p0)) &&& 31)) ^^^ (-1 : Int32))) ||| (((p1 >>> ((2 : Int32) &&& 31)) <<< ((fX0_distancePlace (fX0_kind p0)) &&& 31)) &&& ((fX0_lowBits (fX0_distanceWidth (fX0_kind p0))) <<< ((fX0_distancePlace (fX0_kind p0)) &&& 31))))
def fX0_reaches (p0 : Int32) (p1 : Int64) : Int32 :=
  (fX0_isWithinReach (fX0_kind p0) p1)
theorem zX0_reaches (p0 : Int32) (p1 : Int64) : fX0_reaches p0 p1 = 0 ∨ fX0_reaches p0 p1 = 1 := by
  unfold fX0_reaches
  repeat' split
  all_goals first | with_reducible exact zX0_isWithinReach .. | exact Or.inl rfl | exact Or.inr rfl
def fX0_turned (p0 : Int32) : Int32 :=
  if (fX0_kind p0) = (14 : Int32) then (p0 ^^^ (1 : Int32)) else
  if (fX0_kind p0) = (15 : Int32) then (p0 ^^^ (16777216 : Int32)) else
  if (fX0_kind p0) = (16 : Int32) then (p0 ^^^ (16777216 : Int32)) else
  p0
def fX0_page (p0 : Int32) (p1 : Int64) : Int64 :=
  if (fX0_kind p0) = (5 : Int32) then (((p1 >>> (((12 : Int32)).toInt64 &&& 63)) + (((((fX0_signedBits p0 (5 : Int32) (19 : Int32))).toInt64) * (4 : Int64)) + (((fX0_bits p0 (29 : Int32) (2 : Int32))).toInt64))) <<< (((12 : Int32)).toInt64 &&& 63)) else
  (-1 : Int64)
def fX0_paging (p0 : Int32) (p1 : Int64) (p2 : Int64) : Int32 :=
  if (fX0_kind p0) = (5 : Int32) then (if 0 ≤ (lg_cmp ((p2 >>> (((12 : Int32)).toInt64 &&& 63)) - (p1 >>> (((12 : Int32)).toInt64 &&& 63))) (1048576 : Int64)) then p0 else
    if 0 ≤ (lg_cmp ((p2 >>> (((12 : Int32)).toInt64 &&& 63)) - (p1 >>> (((12 : Int32)).toInt64 &&& 63))) (-1048576 : Int64)) then (((p0 &&& (-1627389921 : Int32)) ||| ((fX0_bits ((((p2 >>> (((12 : Int32)).toInt64 &&& 63)) - (p1 >>> (((12 : Int32)).toInt64 &&& 63)))).toInt32) (2 : Int32) (19 : Int32)) <<< ((5 : Int32) &&& 31))) ||| ((fX0_bits ((((p2 >>> (((12 : Int32)).toInt64 &&& 63)) - (p1 >>> (((12 : Int32)).toInt64 &&& 63)))).toInt32) (0 : Int32) (2 : Int32)) <<< ((29 : Int32) &&& 31))) else
    p0) else
  p0
def fX0_goesOn (p0 : Int32) : Int32 :=
  if (fX0_kind p0) = 0 then (0 : Int32) else
  if (fX0_kind p0) = (12 : Int32) then (0 : Int32) else
  if (fX0_kind p0) = (17 : Int32) then (0 : Int32) else
  if (fX0_kind p0) = (19 : Int32) then (0 : Int32) else
  (1 : Int32)
theorem zX0_goesOn (p0 : Int32) : fX0_goesOn p0 = 0 ∨ fX0_goesOn p0 = 1 := by
  unfold fX0_goesOn
  repeat' split
  all_goals first | exact Or.inl rfl | exact Or.inr rfl
def fX0_hasD (p0 : Int32) : Int32 :=
  if p0 < (1 : Int32) then (if p0 = (15 : Int32) then (1 : Int32) else
    if p0 = (16 : Int32) then (1 : Int32) else
    (0 : Int32)) else
  if p0 ≤ (11 : Int32) then (1 : Int32) else
  if p0 = (15 : Int32) then (1 : Int32) else
  if p0 = (16 : Int32) then (1 : Int32) else
  (0 : Int32)
theorem zX0_hasD (p0 : Int32) : fX0_hasD p0 = 0 ∨ fX0_hasD p0 = 1 := by
  unfold fX0_hasD
  repeat' split
  all_goals first | exact Or.inl rfl | exact Or.inr rfl
def fX0_hasN (p0 : Int32) : Int32 :=
  if p0 < (1 : Int32) then (if p0 < (6 : Int32) then (if p0 < (17 : Int32) then (0 : Int32) else
      if (19 : Int32) < p0 then (0 : Int32) else
      (1 : Int32)) else
    if p0 ≤ (11 : Int32) then (1 : Int32) else
    if p0 < (17 : Int32) then (0 : Int32) else
    if (19 : Int32) < p0 then (0 : Int32) else
    (1 : Int32)) else
  if p0 ≤ (3 : Int32) then (1 : Int32) else
  if p0 < (6 : Int32) then (if p0 < (17 : Int32) then (0 : Int32) else
    if (19 : Int32) < p0 then (0 : Int32) else
    (1 : Int32)) else
  if p0 ≤ (11 : Int32) then (1 : Int32) else
  if p0 < (17 : Int32) then (0 : Int32) else
  if (19 : Int32) < p0 then (0 : Int32) else
  (1 : Int32)
theorem zX0_hasN (p0 : Int32) : fX0_hasN p0 = 0 ∨ fX0_hasN p0 = 1 := by
  unfold fX0_hasN
  repeat' split
  all_goals first | exact Or.inl rfl | exact Or.inr rfl
def fX0_hasM (p0 : Int32) : Int32 :=
  if p0 = (2 : Int32) then (1 : Int32) else
  if p0 = (3 : Int32) then (1 : Int32) else
  if p0 < (6 : Int32) then (if p0 = (10 : Int32) then (1 : Int32) else
    (0 : Int32)) else
  if p0 ≤ (8 : Int32) then (1 : Int32) else
  if p0 = (10 : Int32) then (1 : Int32) else
  (0 : Int32)
theorem zX0_hasM (p0 : Int32) : fX0_hasM p0 = 0 ∨ fX0_hasM p0 = 1 := by
  unfold fX0_hasM
  repeat' split
  all_goals first | exact Or.inl rfl | exact Or.inr rfl
def fX0_hasA (p0 : Int32) : Int32 :=
  if p0 = (6 : Int32) then (1 : Int32) else
  if p0 = (11 : Int32) then (1 : Int32) else
  (0 : Int32)
theorem zX0_hasA (p0 : Int32) : fX0_hasA p0 = 0 ∨ fX0_hasA p0 = 1 := by
  unfold fX0_hasA
  repeat' split
  all_goals first | exact Or.inl rfl | exact Or.inr rfl
def fX0_register (p0 : Int32) (p1 : Int32) : Int32 :=
  if p1 = (0 : Int32) then (if (fX0_hasD (fX0_kind p0)) = 0 then (-1 : Int32) else
    (fX0_bits p0 (0 : Int32) (5 : Int32))) else
  if p1 = (1 : Int32) then (if (fX0_hasN (fX0_kind p0)) = 0 then (-1 : Int32) else
    (fX0_bits p0 (5 : Int32) (5 : Int32))) else
  if p1 = (2 : Int32) then (if (fX0_hasM (fX0_kind p0)) = 0 then (-1 : Int32) else
    (fX0_bits p0 (16 : Int32) (5 : Int32))) else
  if p1 = (3 : Int32) then (if (fX0_hasA (fX0_kind p0)) = 0 then (-1 : Int32) else
    (fX0_bits p0 (10 : Int32) (5 : Int32))) else
  (-1 : Int32)
def fX1_bits (p0 : Int32) (p1 : Int32) (p2 : Int32) : Int32 :=
  ((((p0 <<< (((31 : Int32) - p2) &&& 31))).toUInt32 >>> (((((31 : Int32) - p2) + p1)).toUInt32 &&& Int32.toUInt32 31)).toInt32)
def fX1_signed (p0 : Int32) (p1 : Int32) (p2 : Int32) : Int32 :=
  ((p0 <<< (((31 : Int32) - p2) &&& 31)) >>> ((((31 : Int32) - p2) + p1) &&& 31))
def fX1_isPair (p0 : Int32) : Int32 :=
  if (fX1_bits p0 (23 : Int32) (24 : Int32)) = (2 : Int32) then (if (fX1_bits p0 (23 : Int32) (24 : Int32)) = 0 then (0 : Int32) else
    if (fX1_bits p0 (22 : Int32) (22 : Int32)) = 0 then (1 : Int32) else
    if (fX1_bits p0 (0 : Int32) (4 : Int32)) = (fX1_bits p0 (10 : Int32) (14 : Int32)) then (0 : Int32) else
    (1 : Int32)) else
  if (fX1_bits p0 (5 : Int32) (9 : Int32)) = (31 : Int32) then (if (fX1_bits p0 (23 : Int32) (24 : Int32)) = 0 then (0 : Int32) else
    if (fX1_bits p0 (22 : Int32) (22 : Int32)) = 0 then (1 : Int32) else
    if (fX1_bits p0 (0 : Int32) (4 : Int32)) = (fX1_bits p0 (10 : Int32) (14 : Int32)) then (0 : Int32) else
    (1 : Int32)) else
  if (fX1_bits p0 (23 : Int32) (24 : Int32)) = 0 then (0 : Int32) else
  if (fX1_bits p0 (5 : Int32) (9 : Int32)) = (fX1_bits p0 (0 : Int32) (4 : Int32)) then (0 : Int32) else
  if (fX1_bits p0 (5 : Int32) (9 : Int32)) = (fX1_bits p0 (10 : Int32) (14 : Int32)) then (0 : Int32) else
  if (fX1_bits p0 (22 : Int32) (22 : Int32)) = 0 then (1 : Int32) else
  if (fX1_bits p0 (0 : Int32) (4 : Int32)) = (fX1_bits p0 (10 : Int32) (14 : Int32)) then (0 : Int32) else
  (1 : Int32)
theorem zX1_isPair (p0 : Int32) : fX1_isPair p0 = 0 ∨ fX1_isPair p0 = 1 := by
  unfold fX1_isPair
  repeat' split
  all_goals first | exact Or.inl rfl | exact Or.inr rfl
def fX1_isMoved (p0 : Int32) : Int32 :=
  if p0 < 0 then (1 : Int32) else
  if (fX1_bits p0 (15 : Int32) (15 : Int32)) = 0 then (1 : Int32) else
  (0 : Int32)
theorem zX1_isMoved (p0 : Int32) : fX1_isMoved p0 = 0 ∨ fX1_isMoved p0 = 1 := by
  unfold fX1_isMoved
  repeat' split
  all_goals first | exact Or.inl rfl | exact Or.inr rfl
def fX1_isByRegister (p0 : Int32) : Int32 :=
  if (fX1_bits p0 (21 : Int32) (21 : Int32)) = (1 : Int32) then (if (fX1_bits p0 (13 : Int32) (15 : Int32)) = (3 : Int32) then (if (fX1_bits p0 (10 : Int32) (11 : Int32)) = (2 : Int32) then (1 : Int32) else
      (0 : Int32)) else
    (0 : Int32)) else
  (0 : Int32)
theorem zX1_isByRegister (p0 : Int32) : fX1_isByRegister p0 = 0 ∨ fX1_isByRegister p0 = 1 := by
  unfold fX1_isByRegister
  repeat' split
  all_goals first | exact Or.inl rfl | exact Or.inr rfl
def fX1_isSize (p0 : Int32) : Int32 :=
  if (fX1_bits p0 (30 : Int32) (31 : Int32)) = (1 : Int32) then (0 : Int32) else
  if (fX1_bits p0 (22 : Int32) (23 : Int32)) < (2 : Int32) then (1 : Int32) else
  if (fX1_bits p0 (22 : Int32) (23 : Int32)) = (2 : Int32) then (if (fX1_bits p0 (30 : Int32) (31 : Int32)) = (2 : Int32) then (1 : Int32) else
    (0 : Int32)) else
  (0 : Int32)
theorem zX1_isSize (p0 : Int32) : fX1_isSize p0 = 0 ∨ fX1_isSize p0 = 1 := by
  unfold fX1_isSize
  repeat' split
  all_goals first | exact Or.inl rfl | exact Or.inr rfl
def fX1_inTwo (p0 : Int32) : Int32 :=
  if (fX1_bits p0 (21 : Int32) (23 : Int32)) = (6 : Int32) then (if (fX1_bits p0 (10 : Int32) (15 : Int32)) = (2 : Int32) then (7 : Int32) else
    if (fX1_bits p0 (10 : Int32) (15 : Int32)) = (3 : Int32) then (7 : Int32) else
    if (fX1_bits p0 (10 : Int32) (15 : Int32)) ≤ (7 : Int32) then (0 : Int32) else
    if (11 : Int32) ≤ (fX1_bits p0 (10 : Int32) (15 : Int32)) then (0 : Int32) else
    (7 : Int32)) else
  if (fX1_bits p0 (21 : Int32) (23 : Int32)) = (4 : Int32) then (if (fX1_bits p0 (11 : Int32) (11 : Int32)) = 0 then (if (14 : Int32) ≤ (fX1_bits p0 (12 : Int32) (15 : Int32)) then (0 : Int32) else
      (8 : Int32)) else
    (0 : Int32)) else
  (0 : Int32)
def fX1_goesByRegister (p0 : Int32) : Int32 :=
  if 0 < (fX1_bits p0 (0 : Int32) (4 : Int32)) then (0 : Int32) else
  if 0 < (fX1_bits p0 (10 : Int32) (15 : Int32)) then (0 : Int32) else
  if (fX1_bits p0 (16 : Int32) (20 : Int32)) = (31 : Int32) then (if (3 : Int32) ≤ (fX1_bits p0 (21 : Int32) (23 : Int32)) then (0 : Int32) else
    ((17 : Int32) + (fX1_bits p0 (21 : Int32) (23 : Int32)))) else
  (0 : Int32)
def fX1_jumps (p0 : Int32) : Int32 :=
  if (fX1_bits p0 (26 : Int32) (31 : Int32)) = (5 : Int32) then (12 : Int32) else
  if (fX1_bits p0 (26 : Int32) (31 : Int32)) = (37 : Int32) then (13 : Int32) else
  if (fX1_bits p0 (24 : Int32) (31 : Int32)) = (84 : Int32) then (if (fX1_bits p0 (4 : Int32) (4 : Int32)) = 0 then (if (14 : Int32) ≤ (fX1_bits p0 (0 : Int32) (3 : Int32)) then (0 : Int32) else
      (14 : Int32)) else
    (0 : Int32)) else
  if (fX1_bits p0 (25 : Int32) (30 : Int32)) = (26 : Int32) then (15 : Int32) else
  if (fX1_bits p0 (25 : Int32) (30 : Int32)) = (27 : Int32) then (16 : Int32) else
  if (fX1_bits p0 (24 : Int32) (31 : Int32)) = (214 : Int32) then (fX1_goesByRegister p0) else
  if (fX1_bits p0 (21 : Int32) (31 : Int32)) = (1696 : Int32) then (if (fX1_bits p0 (0 : Int32) (4 : Int32)) = (1 : Int32) then (20 : Int32) else
    if p0 = (-721215457 : Int32) then (21 : Int32) else
    (0 : Int32)) else
  if p0 = (-721215457 : Int32) then (21 : Int32) else
  (0 : Int32)
def fX1_kind (p0 : Int32) : Int32 :=
  if (fX1_bits p0 (24 : Int32) (28 : Int32)) = (8 : Int32) then (if (fX1_bits p0 (25 : Int32) (31 : Int32)) = (84 : Int32) then (if (fX1_isPair p0) = 0 then (0 : Int32) else
      (11 : Int32)) else
    (0 : Int32)) else
  if (fX1_bits p0 (24 : Int32) (28 : Int32)) = (9 : Int32) then (if (fX1_bits p0 (25 : Int32) (31 : Int32)) = (84 : Int32) then (if (fX1_isPair p0) = 0 then (0 : Int32) else
      (11 : Int32)) else
    (0 : Int32)) else
  if (fX1_bits p0 (24 : Int32) (28 : Int32)) = (10 : Int32) then (if (fX1_isMoved p0) = 0 then (0 : Int32) else
    (3 : Int32)) else
  if (fX1_bits p0 (24 : Int32) (28 : Int32)) = (11 : Int32) then (if (fX1_bits p0 (21 : Int32) (21 : Int32)) = 0 then (if (fX1_bits p0 (22 : Int32) (23 : Int32)) = (3 : Int32) then (0 : Int32) else
      if (fX1_isMoved p0) = 0 then (0 : Int32) else
      (2 : Int32)) else
    (0 : Int32)) else
  if (fX1_bits p0 (24 : Int32) (28 : Int32)) = (16 : Int32) then (if 0 ≤ p0 then (0 : Int32) else
    (5 : Int32)) else
  if (fX1_bits p0 (24 : Int32) (28 : Int32)) = (17 : Int32) then (if (fX1_bits p0 (23 : Int32) (23 : Int32)) = 0 then (1 : Int32) else
    (0 : Int32)) else
  if (fX1_bits p0 (24 : Int32) (28 : Int32)) = (18 : Int32) then (if (fX1_bits p0 (23 : Int32) (23 : Int32)) = (1 : Int32) then (if (fX1_bits p0 (29 : Int32) (30 : Int32)) = (1 : Int32) then (0 : Int32) else
      if p0 < 0 then (4 : Int32) else
      if (fX1_bits p0 (22 : Int32) (22 : Int32)) = 0 then (4 : Int32) else
      (0 : Int32)) else
    (0 : Int32)) else
  if (fX1_bits p0 (24 : Int32) (28 : Int32)) = (24 : Int32) then (if (fX1_bits p0 (29 : Int32) (29 : Int32)) = (1 : Int32) then (if (fX1_isByRegister p0) = 0 then (0 : Int32) else
      if (fX1_isSize p0) = 0 then (0 : Int32) else
      (10 : Int32)) else
    (0 : Int32)) else
  if (fX1_bits p0 (24 : Int32) (28 : Int32)) = (25 : Int32) then (if (fX1_bits p0 (29 : Int32) (29 : Int32)) = (1 : Int32) then (if (fX1_isSize p0) = 0 then (0 : Int32) else
      (9 : Int32)) else
    (0 : Int32)) else
  if (fX1_bits p0 (24 : Int32) (28 : Int32)) = (26 : Int32) then (if (fX1_bits p0 (29 : Int32) (30 : Int32)) ≤ 0 then (fX1_inTwo p0) else
    (0 : Int32)) else
  if (fX1_bits p0 (24 : Int32) (28 : Int32)) = (27 : Int32) then (if (fX1_bits p0 (21 : Int32) (23 : Int32)) = 0 then (if (fX1_bits p0 (29 : Int32) (30 : Int32)) = 0 then (6 : Int32) else
      (0 : Int32)) else
    (0 : Int32)) else
  (fX1_jumps p0)
def fX1_reach (p0 : Int32) : Int32 :=
  if p0 = (12 : Int32) then (134217728 : Int32) else
  if p0 = (13 : Int32) then (134217728 : Int32) else
  if p0 = (14 : Int32) then (1048576 : Int32) else
  if p0 = (15 : Int32) then (1048576 : Int32) else
  if p0 = (16 : Int32) then (32768 : Int32) else
  (0 : Int32)
def fX1_by (p0 : Int32) : Int32 :=
  if (fX1_kind p0) < (12 : Int32) then (1 : Int32) else
  if (fX1_kind p0) ≤ (16 : Int32) then (if (14 : Int32) ≤ (fX1_kind p0) then (if (16 : Int32) ≤ (fX1_kind p0) then ((4 : Int32) * (fX1_signed p0 (5 : Int32) (18 : Int32))) else
      ((4 : Int32) * (fX1_signed p0 (5 : Int32) (23 : Int32)))) else
    ((4 : Int32) * (fX1_signed p0 (0 : Int32) (25 : Int32)))) else
  (1 : Int32)
def fX1_reaches (p0 : Int32) (p1 : Int64) : Int32 :=
  if (fX1_reach (fX1_kind p0)) ≤ 0 then (0 : Int32) else
  if (lg_cmp (p1 - p1 / (4 : Int64) * (4 : Int64)) (0 : Int64)) = 0 then (if (lg_cmp p1 (((-(fX1_reach (fX1_kind p0)))).toInt64)) < 0 then (0 : Int32) else
    if 0 ≤ (lg_cmp p1 (((fX1_reach (fX1_kind p0))).toInt64)) then (0 : Int32) else
    (1 : Int32)) else
  (0 : Int32)
theorem zX1_reaches (p0 : Int32) (p1 : Int64) : fX1_reaches p0 p1 = 0 ∨ fX1_reaches p0 p1 = 1 := by
  unfold fX1_reaches
  repeat' split
  all_goals first | exact Or.inl rfl | exact Or.inr rfl
def fX1_going (p0 : Int32) (p1 : Int32) : Int32 :=
  if (fX1_reaches p0 ((p1).toInt64)) = 0 then p0 else
  if (14 : Int32) ≤ (fX1_kind p0) then ((p0 - (p0 &&& ((((fX1_reach (fX1_kind p0)) / (2 : Int32)) - (1 : Int32)) <<< ((5 : Int32) &&& 31)))) + (((p1 / (4 : Int32)) &&& (((fX1_reach (fX1_kind p0)) / (2 : Int32)) - (1 : Int32))) <<< ((5 : Int32) &&& 31))) else
  ((p0 - (p0 &&& ((((fX1_reach (fX1_kind p0)) / (2 : Int32)) - (1 : Int32)) <<< ((0 : Int32) &&& 31)))) + (((p1 / (4 : Int32)) &&& (((fX1_reach (fX1_kind p0)) / (2 : Int32)) - (1 : Int32))) <<< ((0 : Int32) &&& 31)))
def fX1_turned (p0 : Int32) : Int32 :=
  if (fX1_kind p0) = (14 : Int32) then (if (p0 &&& (1 : Int32)) = 0 then (p0 + (1 : Int32)) else
    (p0 - (1 : Int32))) else
  if (fX1_kind p0) = (15 : Int32) then (if (p0 &&& (16777216 : Int32)) = 0 then (p0 + (16777216 : Int32)) else
    (p0 - (16777216 : Int32))) else
  if (fX1_kind p0) = (16 : Int32) then (if (p0 &&& (16777216 : Int32)) = 0 then (p0 + (16777216 : Int32)) else
    (p0 - (16777216 : Int32))) else
  if (p0 &&& (0 : Int32)) = 0 then (p0 + (0 : Int32)) else
  (p0 - (0 : Int32))
def fX1_page (p0 : Int32) (p1 : Int64) : Int64 :=
  if (fX1_kind p0) = (5 : Int32) then ((p1 - (p1 &&& (4095 : Int64))) + ((4096 : Int64) * (((4 : Int64) * (((fX1_signed p0 (5 : Int32) (23 : Int32))).toInt64)) + (((fX1_bits p0 (29 : Int32) (30 : Int32))).toInt64)))) else
  (-1 : Int64)
def fX1_paging (p0 : Int32) (p1 : Int64) (p2 : Int64) : Int32 :=
  if (fX1_kind p0) = (5 : Int32) then (if (lg_cmp (((p2 - (p2 &&& (4095 : Int64))) - (p1 - (p1 &&& (4095 : Int64)))) / (4096 : Int64)) (-1048576 : Int64)) < 0 then p0 else
    if (lg_cmp (((p2 - (p2 &&& (4095 : Int64))) - (p1 - (p1 &&& (4095 : Int64)))) / (4096 : Int64)) (1048575 : Int64)) ≤ 0 then ((((fX1_bits p0 (0 : Int32) (4 : Int32)) - (1879048192 : Int32)) + (((((((p2 - (p2 &&& (4095 : Int64))) - (p1 - (p1 &&& (4095 : Int64)))) / (4096 : Int64)) &&& (3 : Int64))).toInt32) * (536870912 : Int32))) + (((((((((p2 - (p2 &&& (4095 : Int64))) - (p1 - (p1 &&& (4095 : Int64)))) / (4096 : Int64)) - ((((((((p2 - (p2 &&& (4095 : Int64))) - (p1 - (p1 &&& (4095 : Int64)))) / (4096 : Int64)) &&& (3 : Int64))).toInt32)).toInt64)) / (4 : Int64)) &&& (524287 : Int64))).toInt32) * (32 : Int32))) else
    p0) else
  p0
def fX1_goesOn (p0 : Int32) : Int32 :=
  if (fX1_kind p0) ≤ 0 then (0 : Int32) else
  if (fX1_kind p0) = (12 : Int32) then (0 : Int32) else
  if (fX1_kind p0) = (17 : Int32) then (0 : Int32) else
  if (fX1_kind p0) = (19 : Int32) then (0 : Int32) else
  (1 : Int32)
theorem zX1_goesOn (p0 : Int32) : fX1_goesOn p0 = 0 ∨ fX1_goesOn p0 = 1 := by
  unfold fX1_goesOn
  repeat' split
  all_goals first | exact Or.inl rfl | exact Or.inr rfl
def fX1_register (p0 : Int32) (p1 : Int32) : Int32 :=
  if p1 = 0 then (if (fX1_kind p0) ≤ 0 then (if (fX1_kind p0) = (15 : Int32) then (fX1_bits p0 (0 : Int32) ((0 : Int32) + (4 : Int32))) else
      if (fX1_kind p0) = (16 : Int32) then (fX1_bits p0 (0 : Int32) ((0 : Int32) + (4 : Int32))) else
      (-1 : Int32)) else
    if (fX1_kind p0) < (12 : Int32) then (fX1_bits p0 (0 : Int32) ((0 : Int32) + (4 : Int32))) else
    if (fX1_kind p0) = (15 : Int32) then (fX1_bits p0 (0 : Int32) ((0 : Int32) + (4 : Int32))) else
    if (fX1_kind p0) = (16 : Int32) then (fX1_bits p0 (0 : Int32) ((0 : Int32) + (4 : Int32))) else
    (-1 : Int32)) else
  if p1 = (1 : Int32) then (if (fX1_kind p0) ≤ 0 then (if (fX1_kind p0) ≤ (5 : Int32) then (if (fX1_kind p0) ≤ (16 : Int32) then (-1 : Int32) else
        if (20 : Int32) ≤ (fX1_kind p0) then (-1 : Int32) else
        (fX1_bits p0 (5 : Int32) ((5 : Int32) + (4 : Int32)))) else
      if (fX1_kind p0) < (12 : Int32) then (fX1_bits p0 (5 : Int32) ((5 : Int32) + (4 : Int32))) else
      if (fX1_kind p0) ≤ (16 : Int32) then (-1 : Int32) else
      if (20 : Int32) ≤ (fX1_kind p0) then (-1 : Int32) else
      (fX1_bits p0 (5 : Int32) ((5 : Int32) + (4 : Int32)))) else
    if (fX1_kind p0) < (4 : Int32) then (fX1_bits p0 (5 : Int32) ((5 : Int32) + (4 : Int32))) else
    if (fX1_kind p0) ≤ (5 : Int32) then (if (fX1_kind p0) ≤ (16 : Int32) then (-1 : Int32) else
      if (20 : Int32) ≤ (fX1_kind p0) then (-1 : Int32) else
      (fX1_bits p0 (5 : Int32) ((5 : Int32) + (4 : Int32)))) else
    if (fX1_kind p0) < (12 : Int32) then (fX1_bits p0 (5 : Int32) ((5 : Int32) + (4 : Int32))) else
    if (fX1_kind p0) ≤ (16 : Int32) then (-1 : Int32) else
    if (20 : Int32) ≤ (fX1_kind p0) then (-1 : Int32) else
    (fX1_bits p0 (5 : Int32) ((5 : Int32) + (4 : Int32)))) else
  if p1 = (2 : Int32) then (if (fX1_kind p0) = (2 : Int32) then (fX1_bits p0 (16 : Int32) ((16 : Int32) + (4 : Int32))) else
    if (fX1_kind p0) = (3 : Int32) then (fX1_bits p0 (16 : Int32) ((16 : Int32) + (4 : Int32))) else
    if (fX1_kind p0) ≤ (5 : Int32) then (if (fX1_kind p0) = (10 : Int32) then (fX1_bits p0 (16 : Int32) ((16 : Int32) + (4 : Int32))) else
      (-1 : Int32)) else
    if (fX1_kind p0) < (9 : Int32) then (fX1_bits p0 (16 : Int32) ((16 : Int32) + (4 : Int32))) else
    if (fX1_kind p0) = (10 : Int32) then (fX1_bits p0 (16 : Int32) ((16 : Int32) + (4 : Int32))) else
    (-1 : Int32)) else
  if p1 = (3 : Int32) then (if (fX1_kind p0) = (6 : Int32) then (fX1_bits p0 (10 : Int32) ((10 : Int32) + (4 : Int32))) else
    if (fX1_kind p0) = (11 : Int32) then (fX1_bits p0 (10 : Int32) ((10 : Int32) + (4 : Int32))) else
    (-1 : Int32)) else
  (-1 : Int32)
end
section
set_option maxHeartbeats 4000000 in
theorem mX0_init (l : Launch) (sz h0 : Nat) : Met l yX0_init wsX0_init ({ frames := 1, cells := 0, slots := 0, locals := 12 }) (va_Pc [.ref h0] (fun U => U.heap.size = sz)) (va_Qv (fun (_ : Unit) => True) (fun _ _ => True) (fun q : Nat => sz ≤ q)) 0 0 (fun q : Nat => sz ≤ q) := by
  refine Met.ofW (cc := cX0_init) (maxL := 1) (ret := none) (by decide) rfl ?_
  intro p e s m args below meth c s₁ B hml hv
  obtain ⟨rfl, hsz⟩ := hv
  have hx := B.exec
  have hb := B.bytes
  have hr := B.returns
  have hts := atoms_spec (ws := wsX0_init) B.pre
  have hown : s.vm.findClass RX0 = some m.cls := findClass_of_methodNamed B.named
  have hlocks := B.notSynchronized
  subst hsz
  have hS : va_S (fun q : Nat => s.heap.size ≤ q) s.heap s.heap [] := va_S.rf
  have hl := lv_entry ([.ref h0]) (n := 1) (Nat.le_of_ble_eq_true rfl)
  rw [lg_entry_eq]
  generalize (lg_sl ([.ref h0]) ++ List.replicate (1 - (lg_sl ([.ref h0])).length) Slot.unset).toArray = ls at hl ⊢
  have hl : lv_has ls 1 [(0, .ref h0)] := hl
  refine lv_aload_n hx hb dX0_init_0 rfl (lv_at hl 0 rfl) ?_
  refine W.objInit hx hb hown (hts (.methodLink RX0 1 objectInit) (by decide +kernel)) (hts (.instanceMethod objectInit) (by decide +kernel)) (hts _ (List.mem_cons_of_mem _ ((List.mem_of_getElem? (i := 2) rfl)))) rfl (by rw [hml]; exact hl.1) rfl dX0_init_1 (Nat.le_of_ble_eq_true rfl) (Nat.le_of_ble_eq_true rfl) ?_
  refine W.eq (g2 := F0 m 4 ls []) rfl ?_
  exact W.vret hx hb hr (fun t ht hW => ⟨⟨(), rfl, trivial, trivial⟩, hS.F ht⟩) hS.2.2 dX0_init_4
set_option maxHeartbeats 4000000 in
theorem mX1_init (l : Launch) (sz h0 : Nat) : Met l yX1_init wsX1_init ({ frames := 1, cells := 0, slots := 0, locals := 12 }) (va_Pc [.ref h0] (fun U => U.heap.size = sz)) (va_Qv (fun (_ : Unit) => True) (fun _ _ => True) (fun q : Nat => sz ≤ q)) 0 0 (fun q : Nat => sz ≤ q) := by
  refine Met.ofW (cc := cX1_init) (maxL := 1) (ret := none) (by decide) rfl ?_
  intro p e s m args below meth c s₁ B hml hv
  obtain ⟨rfl, hsz⟩ := hv
  have hx := B.exec
  have hb := B.bytes
  have hr := B.returns
  have hts := atoms_spec (ws := wsX1_init) B.pre
  have hown : s.vm.findClass RX1 = some m.cls := findClass_of_methodNamed B.named
  have hlocks := B.notSynchronized
  subst hsz
  have hS : va_S (fun q : Nat => s.heap.size ≤ q) s.heap s.heap [] := va_S.rf
  have hl := lv_entry ([.ref h0]) (n := 1) (Nat.le_of_ble_eq_true rfl)
  rw [lg_entry_eq]
  generalize (lg_sl ([.ref h0]) ++ List.replicate (1 - (lg_sl ([.ref h0])).length) Slot.unset).toArray = ls at hl ⊢
  have hl : lv_has ls 1 [(0, .ref h0)] := hl
  refine lv_aload_n hx hb dX1_init_0 rfl (lv_at hl 0 rfl) ?_
  refine W.objInit hx hb hown (hts (.methodLink RX1 1 objectInit) (by decide +kernel)) (hts (.instanceMethod objectInit) (by decide +kernel)) (hts _ (List.mem_cons_of_mem _ ((List.mem_of_getElem? (i := 2) rfl)))) rfl (by rw [hml]; exact hl.1) rfl dX1_init_1 (Nat.le_of_ble_eq_true rfl) (Nat.le_of_ble_eq_true rfl) ?_
  refine W.eq (g2 := F0 m 4 ls []) rfl ?_
  exact W.vret hx hb hr (fun t ht hW => ⟨⟨(), rfl, trivial, trivial⟩, hS.F ht⟩) hS.2.2 dX1_init_4
set_option maxHeartbeats 4000000 in
set_option maxRecDepth 100000 in
theorem mX0_formOf (l : Launch) (sz : Nat) (t0 : Nat) (p0 : Int32) : Met l yX0_formOf wsX0_formOf ({ frames := 0, cells := 0, slots := 0, locals := 0 }) (va_Pc [.int p0] (fun U => U.heap.size = sz ∧ wv_tt t0 U)) (va_Qi (fun (r : Int32) (_ : Unit) => r = fX0_formOf p0) (fun _ _ => True) (fun q : Nat => sz ≤ q)) 0 0 (fun q : Nat => sz ≤ q) := by
  refine Met.ofW (cc := cX0_formOf) (maxL := 2) (ret := (some .int)) (by decide) rfl ?_
  intro p e s m args below meth c s₁ B hml hv
  obtain ⟨rfl, hsz, hww⟩ := hv
  have hx := B.exec
  have hb := B.bytes
  have hr := B.returns
  have hts := atoms_spec (ws := wsX0_formOf) B.pre
  have hown : s.vm.findClass RX0 = some m.cls := findClass_of_methodNamed B.named
  have hlocks := B.notSynchronized
  subst hsz
  have hS : va_S (fun q : Nat => s.heap.size ≤ q) s.heap s.heap [] := va_S.rf
  have hl := lv_entry ([.int p0]) (n := 2) (Nat.le_of_ble_eq_true rfl)
  rw [lg_entry_eq]
  generalize (lg_sl ([.int p0]) ++ List.replicate (2 - (lg_sl ([.int p0])).length) Slot.unset).toArray = ls at hl ⊢
  have hl : lv_has ls 2 [(0, .int p0)] := hl
  refine lv_iconst (v := 0) hx hb dX0_formOf_0 (by decide) ?_
  refine lv_istore_n (lv' := [(1, .int (0 : Int32)), (0, .int p0)]) hx hb dX0_formOf_1 rfl hl (by decide) rfl (fun ls hl => ?_)
  refine lv_iload_n hx hb dX0_formOf_2 rfl (lv_at hl 0 rfl) ?_
  refine lv_iconst (v := 1) hx hb dX0_formOf_3 (by decide) ?_
  refine lv_iadd hx hb dX0_formOf_4 ?_
  refine va_gets hx hb hww.1 hS hown (hts (.fieldLink RX0 66 "WordForms" "FORMS" "[I") (by decide +kernel)) (fun _ h => h) dX0_formOf_5 ?_
  refine va_tlen (v := 42) hx hb hww.2 hS (by decide) dX0_formOf_8 ?_
  refine lv_icmp_ge (tgt := 41) hx hb dX0_formOf_9 (by decide) (fun c => absurd c (by decide)) (fun _ => ?_)
  refine lv_iload_n hx hb dX0_formOf_12 rfl (lv_at hl 1 rfl) ?_
  refine va_gets hx hb hww.1 hS hown (hts (.fieldLink RX0 66 "WordForms" "FORMS" "[I") (by decide +kernel)) (fun _ h => h) dX0_formOf_13 ?_
  refine lv_iload_n hx hb dX0_formOf_16 rfl (lv_at hl 0 rfl) ?_
  refine va_ti (v := .int (528482304 : Int32)) hx hb hww.2 hS (show ¬ ((0 : Int32) < 0 ∨ 42 ≤ ((0 : Int32)).toNatClampNeg) from by decide) (congrArg Value.int (show fm_t.getD ((0 : Int32)).toNatClampNeg 0 = (528482304 : Int32) from by decide)) dX0_formOf_17 ?_
  refine lv_iand hx hb dX0_formOf_18 ?_
  refine va_gets hx hb hww.1 hS hown (hts (.fieldLink RX0 66 "WordForms" "FORMS" "[I") (by decide +kernel)) (fun _ h => h) dX0_formOf_19 ?_
  refine lv_iload_n hx hb dX0_formOf_22 rfl (lv_at hl 0 rfl) ?_
  refine lv_iconst (v := 1) hx hb dX0_formOf_23 (by decide) ?_
  refine lv_iadd hx hb dX0_formOf_24 ?_
  refine va_ti (v := .int (285212672 : Int32)) hx hb hww.2 hS (show ¬ (((0 : Int32) + (1 : Int32)) < 0 ∨ 42 ≤ (((0 : Int32) + (1 : Int32))).toNatClampNeg) from by decide) (congrArg Value.int (show fm_t.getD (((0 : Int32) + (1 : Int32))).toNatClampNeg 0 = (285212672 : Int32) from by decide)) dX0_formOf_25 ?_
  refine lv_icmp_ne (tgt := 35) hx hb dX0_formOf_26 (by decide) (fun c_1 => ?_) (fun c_1 => ?_)
  · -- taken
    refine lv_iinc (v := 2) (lv' := [(1, .int (2 : Int32)), (0, .int p0)]) hx hb dX0_formOf_35 hl (k := 0) rfl (by decide) (by decide) rfl (fun ls hl => ?_)
    refine lv_goto (tgt := 2) hx hb dX0_formOf_38 (by decide) ?_
    refine lv_iload_n hx hb dX0_formOf_2 rfl (lv_at hl 0 rfl) ?_
    refine lv_iconst (v := 1) hx hb dX0_formOf_3 (by decide) ?_
    refine lv_iadd hx hb dX0_formOf_4 ?_
    refine va_gets hx hb hww.1 hS hown (hts (.fieldLink RX0 66 "WordForms" "FORMS" "[I") (by decide +kernel)) (fun _ h => h) dX0_formOf_5 ?_
    refine va_tlen (v := 42) hx hb hww.2 hS (by decide) dX0_formOf_8 ?_
    refine lv_icmp_ge (tgt := 41) hx hb dX0_formOf_9 (by decide) (fun c => absurd c (by decide)) (fun _ => ?_)
    refine lv_iload_n hx hb dX0_formOf_12 rfl (lv_at hl 1 rfl) ?_
    refine va_gets hx hb hww.1 hS hown (hts (.fieldLink RX0 66 "WordForms" "FORMS" "[I") (by decide +kernel)) (fun _ h => h) dX0_formOf_13 ?_
    refine lv_iload_n hx hb dX0_formOf_16 rfl (lv_at hl 0 rfl) ?_
    refine va_ti (v := .int (522190848 : Int32)) hx hb hww.2 hS (show ¬ ((2 : Int32) < 0 ∨ 42 ≤ ((2 : Int32)).toNatClampNeg) from by decide) (congrArg Value.int (show fm_t.getD ((2 : Int32)).toNatClampNeg 0 = (522190848 : Int32) from by decide)) dX0_formOf_17 ?_
    refine lv_iand hx hb dX0_formOf_18 ?_
    refine va_gets hx hb hww.1 hS hown (hts (.fieldLink RX0 66 "WordForms" "FORMS" "[I") (by decide +kernel)) (fun _ h => h) dX0_formOf_19 ?_
    refine lv_iload_n hx hb dX0_formOf_22 rfl (lv_at hl 0 rfl) ?_
    refine lv_iconst (v := 1) hx hb dX0_formOf_23 (by decide) ?_
    refine lv_iadd hx hb dX0_formOf_24 ?_
    refine va_ti (v := .int (184549376 : Int32)) hx hb hww.2 hS (show ¬ (((2 : Int32) + (1 : Int32)) < 0 ∨ 42 ≤ (((2 : Int32) + (1 : Int32))).toNatClampNeg) from by decide) (congrArg Value.int (show fm_t.getD (((2 : Int32) + (1 : Int32))).toNatClampNeg 0 = (184549376 : Int32) from by decide)) dX0_formOf_25 ?_
    refine lv_icmp_ne (tgt := 35) hx hb dX0_formOf_26 (by decide) (fun c_2 => ?_) (fun c_2 => ?_)
    · -- taken
      refine lv_iinc (v := 4) (lv' := [(1, .int (4 : Int32)), (0, .int p0)]) hx hb dX0_formOf_35 hl (k := 0) rfl (by decide) (by decide) rfl (fun ls hl => ?_)
      refine lv_goto (tgt := 2) hx hb dX0_formOf_38 (by decide) ?_
      refine lv_iload_n hx hb dX0_formOf_2 rfl (lv_at hl 0 rfl) ?_
      refine lv_iconst (v := 1) hx hb dX0_formOf_3 (by decide) ?_
      refine lv_iadd hx hb dX0_formOf_4 ?_
      refine va_gets hx hb hww.1 hS hown (hts (.fieldLink RX0 66 "WordForms" "FORMS" "[I") (by decide +kernel)) (fun _ h => h) dX0_formOf_5 ?_
      refine va_tlen (v := 42) hx hb hww.2 hS (by decide) dX0_formOf_8 ?_
      refine lv_icmp_ge (tgt := 41) hx hb dX0_formOf_9 (by decide) (fun c => absurd c (by decide)) (fun _ => ?_)
      refine lv_iload_n hx hb dX0_formOf_12 rfl (lv_at hl 1 rfl) ?_
      refine va_gets hx hb hww.1 hS hown (hts (.fieldLink RX0 66 "WordForms" "FORMS" "[I") (by decide +kernel)) (fun _ h => h) dX0_formOf_13 ?_
      refine lv_iload_n hx hb dX0_formOf_16 rfl (lv_at hl 0 rfl) ?_
      refine va_ti (v := .int (520093696 : Int32)) hx hb hww.2 hS (show ¬ ((4 : Int32) < 0 ∨ 42 ≤ ((4 : Int32)).toNatClampNeg) from by decide) (congrArg Value.int (show fm_t.getD ((4 : Int32)).toNatClampNeg 0 = (520093696 : Int32) from by decide)) dX0_formOf_17 ?_
      refine lv_iand hx hb dX0_formOf_18 ?_
      refine va_gets hx hb hww.1 hS hown (hts (.fieldLink RX0 66 "WordForms" "FORMS" "[I") (by decide +kernel)) (fun _ h => h) dX0_formOf_19 ?_
      refine lv_iload_n hx hb dX0_formOf_22 rfl (lv_at hl 0 rfl) ?_
      refine lv_iconst (v := 1) hx hb dX0_formOf_23 (by decide) ?_
      refine lv_iadd hx hb dX0_formOf_24 ?_
      refine va_ti (v := .int (167772160 : Int32)) hx hb hww.2 hS (show ¬ (((4 : Int32) + (1 : Int32)) < 0 ∨ 42 ≤ (((4 : Int32) + (1 : Int32))).toNatClampNeg) from by decide) (congrArg Value.int (show fm_t.getD (((4 : Int32) + (1 : Int32))).toNatClampNeg 0 = (167772160 : Int32) from by decide)) dX0_formOf_25 ?_
      refine lv_icmp_ne (tgt := 35) hx hb dX0_formOf_26 (by decide) (fun c_3 => ?_) (fun c_3 => ?_)
      · -- taken
        refine lv_iinc (v := 6) (lv' := [(1, .int (6 : Int32)), (0, .int p0)]) hx hb dX0_formOf_35 hl (k := 0) rfl (by decide) (by decide) rfl (fun ls hl => ?_)
        refine lv_goto (tgt := 2) hx hb dX0_formOf_38 (by decide) ?_
        refine lv_iload_n hx hb dX0_formOf_2 rfl (lv_at hl 0 rfl) ?_
        refine lv_iconst (v := 1) hx hb dX0_formOf_3 (by decide) ?_
        refine lv_iadd hx hb dX0_formOf_4 ?_
        refine va_gets hx hb hww.1 hS hown (hts (.fieldLink RX0 66 "WordForms" "FORMS" "[I") (by decide +kernel)) (fun _ h => h) dX0_formOf_5 ?_
        refine va_tlen (v := 42) hx hb hww.2 hS (by decide) dX0_formOf_8 ?_
        refine lv_icmp_ge (tgt := 41) hx hb dX0_formOf_9 (by decide) (fun c => absurd c (by decide)) (fun _ => ?_)
        refine lv_iload_n hx hb dX0_formOf_12 rfl (lv_at hl 1 rfl) ?_
        refine va_gets hx hb hww.1 hS hown (hts (.fieldLink RX0 66 "WordForms" "FORMS" "[I") (by decide +kernel)) (fun _ h => h) dX0_formOf_13 ?_
        refine lv_iload_n hx hb dX0_formOf_16 rfl (lv_at hl 0 rfl) ?_
        refine va_ti (v := .int (528482304 : Int32)) hx hb hww.2 hS (show ¬ ((6 : Int32) < 0 ∨ 42 ≤ ((6 : Int32)).toNatClampNeg) from by decide) (congrArg Value.int (show fm_t.getD ((6 : Int32)).toNatClampNeg 0 = (528482304 : Int32) from by decide)) dX0_formOf_17 ?_
        refine lv_iand hx hb dX0_formOf_18 ?_
        refine va_gets hx hb hww.1 hS hown (hts (.fieldLink RX0 66 "WordForms" "FORMS" "[I") (by decide +kernel)) (fun _ h => h) dX0_formOf_19 ?_
        refine lv_iload_n hx hb dX0_formOf_22 rfl (lv_at hl 0 rfl) ?_
        refine lv_iconst (v := 1) hx hb dX0_formOf_23 (by decide) ?_
        refine lv_iadd hx hb dX0_formOf_24 ?_
        refine va_ti (v := .int (310378496 : Int32)) hx hb hww.2 hS (show ¬ (((6 : Int32) + (1 : Int32)) < 0 ∨ 42 ≤ (((6 : Int32) + (1 : Int32))).toNatClampNeg) from by decide) (congrArg Value.int (show fm_t.getD (((6 : Int32) + (1 : Int32))).toNatClampNeg 0 = (310378496 : Int32) from by decide)) dX0_formOf_25 ?_
        refine lv_icmp_ne (tgt := 35) hx hb dX0_formOf_26 (by decide) (fun c_4 => ?_) (fun c_4 => ?_)
        · -- taken
          refine lv_iinc (v := 8) (lv' := [(1, .int (8 : Int32)), (0, .int p0)]) hx hb dX0_formOf_35 hl (k := 0) rfl (by decide) (by decide) rfl (fun ls hl => ?_)
          refine lv_goto (tgt := 2) hx hb dX0_formOf_38 (by decide) ?_
          refine lv_iload_n hx hb dX0_formOf_2 rfl (lv_at hl 0 rfl) ?_
          refine lv_iconst (v := 1) hx hb dX0_formOf_3 (by decide) ?_
          refine lv_iadd hx hb dX0_formOf_4 ?_
          refine va_gets hx hb hww.1 hS hown (hts (.fieldLink RX0 66 "WordForms" "FORMS" "[I") (by decide +kernel)) (fun _ h => h) dX0_formOf_5 ?_
          refine va_tlen (v := 42) hx hb hww.2 hS (by decide) dX0_formOf_8 ?_
          refine lv_icmp_ge (tgt := 41) hx hb dX0_formOf_9 (by decide) (fun c => absurd c (by decide)) (fun _ => ?_)
          refine lv_iload_n hx hb dX0_formOf_12 rfl (lv_at hl 1 rfl) ?_
          refine va_gets hx hb hww.1 hS hown (hts (.fieldLink RX0 66 "WordForms" "FORMS" "[I") (by decide +kernel)) (fun _ h => h) dX0_formOf_13 ?_
          refine lv_iload_n hx hb dX0_formOf_16 rfl (lv_at hl 0 rfl) ?_
          refine va_ti (v := .int (-1627389952 : Int32)) hx hb hww.2 hS (show ¬ ((8 : Int32) < 0 ∨ 42 ≤ ((8 : Int32)).toNatClampNeg) from by decide) (congrArg Value.int (show fm_t.getD ((8 : Int32)).toNatClampNeg 0 = (-1627389952 : Int32) from by decide)) dX0_formOf_17 ?_
          refine lv_iand hx hb dX0_formOf_18 ?_
          refine va_gets hx hb hww.1 hS hown (hts (.fieldLink RX0 66 "WordForms" "FORMS" "[I") (by decide +kernel)) (fun _ h => h) dX0_formOf_19 ?_
          refine lv_iload_n hx hb dX0_formOf_22 rfl (lv_at hl 0 rfl) ?_
          refine lv_iconst (v := 1) hx hb dX0_formOf_23 (by decide) ?_
          refine lv_iadd hx hb dX0_formOf_24 ?_
          refine va_ti (v := .int (-1879048192 : Int32)) hx hb hww.2 hS (show ¬ (((8 : Int32) + (1 : Int32)) < 0 ∨ 42 ≤ (((8 : Int32) + (1 : Int32))).toNatClampNeg) from by decide) (congrArg Value.int (show fm_t.getD (((8 : Int32) + (1 : Int32))).toNatClampNeg 0 = (-1879048192 : Int32) from by decide)) dX0_formOf_25 ?_
          refine lv_icmp_ne (tgt := 35) hx hb dX0_formOf_26 (by decide) (fun c_5 => ?_) (fun c_5 => ?_)
          · -- taken
            refine lv_iinc (v := 10) (lv' := [(1, .int (10 : Int32)), (0, .int p0)]) hx hb dX0_formOf_35 hl (k := 0) rfl (by decide) (by decide) rfl (fun ls hl => ?_)
            refine lv_goto (tgt := 2) hx hb dX0_formOf_38 (by decide) ?_
            refine lv_iload_n hx hb dX0_formOf_2 rfl (lv_at hl 0 rfl) ?_
            refine lv_iconst (v := 1) hx hb dX0_formOf_3 (by decide) ?_
            refine lv_iadd hx hb dX0_formOf_4 ?_
            refine va_gets hx hb hww.1 hS hown (hts (.fieldLink RX0 66 "WordForms" "FORMS" "[I") (by decide +kernel)) (fun _ h => h) dX0_formOf_5 ?_
            refine va_tlen (v := 42) hx hb hww.2 hS (by decide) dX0_formOf_8 ?_
            refine lv_icmp_ge (tgt := 41) hx hb dX0_formOf_9 (by decide) (fun c => absurd c (by decide)) (fun _ => ?_)
            refine lv_iload_n hx hb dX0_formOf_12 rfl (lv_at hl 1 rfl) ?_
            refine va_gets hx hb hww.1 hS hown (hts (.fieldLink RX0 66 "WordForms" "FORMS" "[I") (by decide +kernel)) (fun _ h => h) dX0_formOf_13 ?_
            refine lv_iload_n hx hb dX0_formOf_16 rfl (lv_at hl 0 rfl) ?_
            refine va_ti (v := .int (2145386496 : Int32)) hx hb hww.2 hS (show ¬ ((10 : Int32) < 0 ∨ 42 ≤ ((10 : Int32)).toNatClampNeg) from by decide) (congrArg Value.int (show fm_t.getD ((10 : Int32)).toNatClampNeg 0 = (2145386496 : Int32) from by decide)) dX0_formOf_17 ?_
            refine lv_iand hx hb dX0_formOf_18 ?_
            refine va_gets hx hb hww.1 hS hown (hts (.fieldLink RX0 66 "WordForms" "FORMS" "[I") (by decide +kernel)) (fun _ h => h) dX0_formOf_19 ?_
            refine lv_iload_n hx hb dX0_formOf_22 rfl (lv_at hl 0 rfl) ?_
            refine lv_iconst (v := 1) hx hb dX0_formOf_23 (by decide) ?_
            refine lv_iadd hx hb dX0_formOf_24 ?_
            refine va_ti (v := .int (452984832 : Int32)) hx hb hww.2 hS (show ¬ (((10 : Int32) + (1 : Int32)) < 0 ∨ 42 ≤ (((10 : Int32) + (1 : Int32))).toNatClampNeg) from by decide) (congrArg Value.int (show fm_t.getD (((10 : Int32) + (1 : Int32))).toNatClampNeg 0 = (452984832 : Int32) from by decide)) dX0_formOf_25 ?_
            refine lv_icmp_ne (tgt := 35) hx hb dX0_formOf_26 (by decide) (fun c_6 => ?_) (fun c_6 => ?_)
            · -- taken
              refine lv_iinc (v := 12) (lv' := [(1, .int (12 : Int32)), (0, .int p0)]) hx hb dX0_formOf_35 hl (k := 0) rfl (by decide) (by decide) rfl (fun ls hl => ?_)
              refine lv_goto (tgt := 2) hx hb dX0_formOf_38 (by decide) ?_
              refine lv_iload_n hx hb dX0_formOf_2 rfl (lv_at hl 0 rfl) ?_
              refine lv_iconst (v := 1) hx hb dX0_formOf_3 (by decide) ?_
              refine lv_iadd hx hb dX0_formOf_4 ?_
              refine va_gets hx hb hww.1 hS hown (hts (.fieldLink RX0 66 "WordForms" "FORMS" "[I") (by decide +kernel)) (fun _ h => h) dX0_formOf_5 ?_
              refine va_tlen (v := 42) hx hb hww.2 hS (by decide) dX0_formOf_8 ?_
              refine lv_icmp_ge (tgt := 41) hx hb dX0_formOf_9 (by decide) (fun c => absurd c (by decide)) (fun _ => ?_)
              refine lv_iload_n hx hb dX0_formOf_12 rfl (lv_at hl 1 rfl) ?_
              refine va_gets hx hb hww.1 hS hown (hts (.fieldLink RX0 66 "WordForms" "FORMS" "[I") (by decide +kernel)) (fun _ h => h) dX0_formOf_13 ?_
              refine lv_iload_n hx hb dX0_formOf_16 rfl (lv_at hl 0 rfl) ?_
              refine va_ti (v := .int (2145386496 : Int32)) hx hb hww.2 hS (show ¬ ((12 : Int32) < 0 ∨ 42 ≤ ((12 : Int32)).toNatClampNeg) from by decide) (congrArg Value.int (show fm_t.getD ((12 : Int32)).toNatClampNeg 0 = (2145386496 : Int32) from by decide)) dX0_formOf_17 ?_
              refine lv_iand hx hb dX0_formOf_18 ?_
              refine va_gets hx hb hww.1 hS hown (hts (.fieldLink RX0 66 "WordForms" "FORMS" "[I") (by decide +kernel)) (fun _ h => h) dX0_formOf_19 ?_
              refine lv_iload_n hx hb dX0_formOf_22 rfl (lv_at hl 0 rfl) ?_
              refine lv_iconst (v := 1) hx hb dX0_formOf_23 (by decide) ?_
              refine lv_iadd hx hb dX0_formOf_24 ?_
              refine va_ti (v := .int (448790528 : Int32)) hx hb hww.2 hS (show ¬ (((12 : Int32) + (1 : Int32)) < 0 ∨ 42 ≤ (((12 : Int32) + (1 : Int32))).toNatClampNeg) from by decide) (congrArg Value.int (show fm_t.getD (((12 : Int32) + (1 : Int32))).toNatClampNeg 0 = (448790528 : Int32) from by decide)) dX0_formOf_25 ?_
              refine lv_icmp_ne (tgt := 35) hx hb dX0_formOf_26 (by decide) (fun c_7 => ?_) (fun c_7 => ?_)
              · -- taken
                refine lv_iinc (v := 14) (lv' := [(1, .int (14 : Int32)), (0, .int p0)]) hx hb dX0_formOf_35 hl (k := 0) rfl (by decide) (by decide) rfl (fun ls hl => ?_)
                refine lv_goto (tgt := 2) hx hb dX0_formOf_38 (by decide) ?_
                refine lv_iload_n hx hb dX0_formOf_2 rfl (lv_at hl 0 rfl) ?_
                refine lv_iconst (v := 1) hx hb dX0_formOf_3 (by decide) ?_
                refine lv_iadd hx hb dX0_formOf_4 ?_
                refine va_gets hx hb hww.1 hS hown (hts (.fieldLink RX0 66 "WordForms" "FORMS" "[I") (by decide +kernel)) (fun _ h => h) dX0_formOf_5 ?_
                refine va_tlen (v := 42) hx hb hww.2 hS (by decide) dX0_formOf_8 ?_
                refine lv_icmp_ge (tgt := 41) hx hb dX0_formOf_9 (by decide) (fun c => absurd c (by decide)) (fun _ => ?_)
                refine lv_iload_n hx hb dX0_formOf_12 rfl (lv_at hl 1 rfl) ?_
                refine va_gets hx hb hww.1 hS hown (hts (.fieldLink RX0 66 "WordForms" "FORMS" "[I") (by decide +kernel)) (fun _ h => h) dX0_formOf_13 ?_
                refine lv_iload_n hx hb dX0_formOf_16 rfl (lv_at hl 0 rfl) ?_
                refine va_ti (v := .int (2145388544 : Int32)) hx hb hww.2 hS (show ¬ ((14 : Int32) < 0 ∨ 42 ≤ ((14 : Int32)).toNatClampNeg) from by decide) (congrArg Value.int (show fm_t.getD ((14 : Int32)).toNatClampNeg 0 = (2145388544 : Int32) from by decide)) dX0_formOf_17 ?_
                refine lv_iand hx hb dX0_formOf_18 ?_
                refine va_gets hx hb hww.1 hS hown (hts (.fieldLink RX0 66 "WordForms" "FORMS" "[I") (by decide +kernel)) (fun _ h => h) dX0_formOf_19 ?_
                refine lv_iload_n hx hb dX0_formOf_22 rfl (lv_at hl 0 rfl) ?_
                refine lv_iconst (v := 1) hx hb dX0_formOf_23 (by decide) ?_
                refine lv_iadd hx hb dX0_formOf_24 ?_
                refine va_ti (v := .int (444596224 : Int32)) hx hb hww.2 hS (show ¬ (((14 : Int32) + (1 : Int32)) < 0 ∨ 42 ≤ (((14 : Int32) + (1 : Int32))).toNatClampNeg) from by decide) (congrArg Value.int (show fm_t.getD (((14 : Int32) + (1 : Int32))).toNatClampNeg 0 = (444596224 : Int32) from by decide)) dX0_formOf_25 ?_
                refine lv_icmp_ne (tgt := 35) hx hb dX0_formOf_26 (by decide) (fun c_8 => ?_) (fun c_8 => ?_)
                · -- taken
                  refine lv_iinc (v := 16) (lv' := [(1, .int (16 : Int32)), (0, .int p0)]) hx hb dX0_formOf_35 hl (k := 0) rfl (by decide) (by decide) rfl (fun ls hl => ?_)
                  refine lv_goto (tgt := 2) hx hb dX0_formOf_38 (by decide) ?_
                  refine lv_iload_n hx hb dX0_formOf_2 rfl (lv_at hl 0 rfl) ?_
                  refine lv_iconst (v := 1) hx hb dX0_formOf_3 (by decide) ?_
                  refine lv_iadd hx hb dX0_formOf_4 ?_
                  refine va_gets hx hb hww.1 hS hown (hts (.fieldLink RX0 66 "WordForms" "FORMS" "[I") (by decide +kernel)) (fun _ h => h) dX0_formOf_5 ?_
                  refine va_tlen (v := 42) hx hb hww.2 hS (by decide) dX0_formOf_8 ?_
                  refine lv_icmp_ge (tgt := 41) hx hb dX0_formOf_9 (by decide) (fun c => absurd c (by decide)) (fun _ => ?_)
                  refine lv_iload_n hx hb dX0_formOf_12 rfl (lv_at hl 1 rfl) ?_
                  refine va_gets hx hb hww.1 hS hown (hts (.fieldLink RX0 66 "WordForms" "FORMS" "[I") (by decide +kernel)) (fun _ h => h) dX0_formOf_13 ?_
                  refine lv_iload_n hx hb dX0_formOf_16 rfl (lv_at hl 0 rfl) ?_
                  refine va_ti (v := .int (1056964608 : Int32)) hx hb hww.2 hS (show ¬ ((16 : Int32) < 0 ∨ 42 ≤ ((16 : Int32)).toNatClampNeg) from by decide) (congrArg Value.int (show fm_t.getD ((16 : Int32)).toNatClampNeg 0 = (1056964608 : Int32) from by decide)) dX0_formOf_17 ?_
                  refine lv_iand hx hb dX0_formOf_18 ?_
                  refine va_gets hx hb hww.1 hS hown (hts (.fieldLink RX0 66 "WordForms" "FORMS" "[I") (by decide +kernel)) (fun _ h => h) dX0_formOf_19 ?_
                  refine lv_iload_n hx hb dX0_formOf_22 rfl (lv_at hl 0 rfl) ?_
                  refine lv_iconst (v := 1) hx hb dX0_formOf_23 (by decide) ?_
                  refine lv_iadd hx hb dX0_formOf_24 ?_
                  refine va_ti (v := .int (956301312 : Int32)) hx hb hww.2 hS (show ¬ (((16 : Int32) + (1 : Int32)) < 0 ∨ 42 ≤ (((16 : Int32) + (1 : Int32))).toNatClampNeg) from by decide) (congrArg Value.int (show fm_t.getD (((16 : Int32) + (1 : Int32))).toNatClampNeg 0 = (956301312 : Int32) from by decide)) dX0_formOf_25 ?_
                  refine lv_icmp_ne (tgt := 35) hx hb dX0_formOf_26 (by decide) (fun c_9 => ?_) (fun c_9 => ?_)
                  · -- taken
                    refine lv_iinc (v := 18) (lv' := [(1, .int (18 : Int32)), (0, .int p0)]) hx hb dX0_formOf_35 hl (k := 0) rfl (by decide) (by decide) rfl (fun ls hl => ?_)
                    refine lv_goto (tgt := 2) hx hb dX0_formOf_38 (by decide) ?_
                    refine lv_iload_n hx hb dX0_formOf_2 rfl (lv_at hl 0 rfl) ?_
                    refine lv_iconst (v := 1) hx hb dX0_formOf_3 (by decide) ?_
                    refine lv_iadd hx hb dX0_formOf_4 ?_
                    refine va_gets hx hb hww.1 hS hown (hts (.fieldLink RX0 66 "WordForms" "FORMS" "[I") (by decide +kernel)) (fun _ h => h) dX0_formOf_5 ?_
                    refine va_tlen (v := 42) hx hb hww.2 hS (by decide) dX0_formOf_8 ?_
                    refine lv_icmp_ge (tgt := 41) hx hb dX0_formOf_9 (by decide) (fun c => absurd c (by decide)) (fun _ => ?_)
                    refine lv_iload_n hx hb dX0_formOf_12 rfl (lv_at hl 1 rfl) ?_
                    refine va_gets hx hb hww.1 hS hown (hts (.fieldLink RX0 66 "WordForms" "FORMS" "[I") (by decide +kernel)) (fun _ h => h) dX0_formOf_13 ?_
                    refine lv_iload_n hx hb dX0_formOf_16 rfl (lv_at hl 0 rfl) ?_
                    refine va_ti (v := .int (1059122176 : Int32)) hx hb hww.2 hS (show ¬ ((18 : Int32) < 0 ∨ 42 ≤ ((18 : Int32)).toNatClampNeg) from by decide) (congrArg Value.int (show fm_t.getD ((18 : Int32)).toNatClampNeg 0 = (1059122176 : Int32) from by decide)) dX0_formOf_17 ?_
                    refine lv_iand hx hb dX0_formOf_18 ?_
                    refine va_gets hx hb hww.1 hS hown (hts (.fieldLink RX0 66 "WordForms" "FORMS" "[I") (by decide +kernel)) (fun _ h => h) dX0_formOf_19 ?_
                    refine lv_iload_n hx hb dX0_formOf_22 rfl (lv_at hl 0 rfl) ?_
                    refine lv_iconst (v := 1) hx hb dX0_formOf_23 (by decide) ?_
                    refine lv_iadd hx hb dX0_formOf_24 ?_
                    refine va_ti (v := .int (941647872 : Int32)) hx hb hww.2 hS (show ¬ (((18 : Int32) + (1 : Int32)) < 0 ∨ 42 ≤ (((18 : Int32) + (1 : Int32))).toNatClampNeg) from by decide) (congrArg Value.int (show fm_t.getD (((18 : Int32) + (1 : Int32))).toNatClampNeg 0 = (941647872 : Int32) from by decide)) dX0_formOf_25 ?_
                    refine lv_icmp_ne (tgt := 35) hx hb dX0_formOf_26 (by decide) (fun c_10 => ?_) (fun c_10 => ?_)
                    · -- taken
                      refine lv_iinc (v := 20) (lv' := [(1, .int (20 : Int32)), (0, .int p0)]) hx hb dX0_formOf_35 hl (k := 0) rfl (by decide) (by decide) rfl (fun ls hl => ?_)
                      refine lv_goto (tgt := 2) hx hb dX0_formOf_38 (by decide) ?_
                      refine lv_iload_n hx hb dX0_formOf_2 rfl (lv_at hl 0 rfl) ?_
                      refine lv_iconst (v := 1) hx hb dX0_formOf_3 (by decide) ?_
                      refine lv_iadd hx hb dX0_formOf_4 ?_
                      refine va_gets hx hb hww.1 hS hown (hts (.fieldLink RX0 66 "WordForms" "FORMS" "[I") (by decide +kernel)) (fun _ h => h) dX0_formOf_5 ?_
                      refine va_tlen (v := 42) hx hb hww.2 hS (by decide) dX0_formOf_8 ?_
                      refine lv_icmp_ge (tgt := 41) hx hb dX0_formOf_9 (by decide) (fun c => absurd c (by decide)) (fun _ => ?_)
                      refine lv_iload_n hx hb dX0_formOf_12 rfl (lv_at hl 1 rfl) ?_
                      refine va_gets hx hb hww.1 hS hown (hts (.fieldLink RX0 66 "WordForms" "FORMS" "[I") (by decide +kernel)) (fun _ h => h) dX0_formOf_13 ?_
                      refine lv_iload_n hx hb dX0_formOf_16 rfl (lv_at hl 0 rfl) ?_
                      refine va_ti (v := .int (-33554432 : Int32)) hx hb hww.2 hS (show ¬ ((20 : Int32) < 0 ∨ 42 ≤ ((20 : Int32)).toNatClampNeg) from by decide) (congrArg Value.int (show fm_t.getD ((20 : Int32)).toNatClampNeg 0 = (-33554432 : Int32) from by decide)) dX0_formOf_17 ?_
                      refine lv_iand hx hb dX0_formOf_18 ?_
                      refine va_gets hx hb hww.1 hS hown (hts (.fieldLink RX0 66 "WordForms" "FORMS" "[I") (by decide +kernel)) (fun _ h => h) dX0_formOf_19 ?_
                      refine lv_iload_n hx hb dX0_formOf_22 rfl (lv_at hl 0 rfl) ?_
                      refine lv_iconst (v := 1) hx hb dX0_formOf_23 (by decide) ?_
                      refine lv_iadd hx hb dX0_formOf_24 ?_
                      refine va_ti (v := .int (-1476395008 : Int32)) hx hb hww.2 hS (show ¬ (((20 : Int32) + (1 : Int32)) < 0 ∨ 42 ≤ (((20 : Int32) + (1 : Int32))).toNatClampNeg) from by decide) (congrArg Value.int (show fm_t.getD (((20 : Int32) + (1 : Int32))).toNatClampNeg 0 = (-1476395008 : Int32) from by decide)) dX0_formOf_25 ?_
                      refine lv_icmp_ne (tgt := 35) hx hb dX0_formOf_26 (by decide) (fun c_11 => ?_) (fun c_11 => ?_)
                      · -- taken
                        refine lv_iinc (v := 22) (lv' := [(1, .int (22 : Int32)), (0, .int p0)]) hx hb dX0_formOf_35 hl (k := 0) rfl (by decide) (by decide) rfl (fun ls hl => ?_)
                        refine lv_goto (tgt := 2) hx hb dX0_formOf_38 (by decide) ?_
                        refine lv_iload_n hx hb dX0_formOf_2 rfl (lv_at hl 0 rfl) ?_
                        refine lv_iconst (v := 1) hx hb dX0_formOf_3 (by decide) ?_
                        refine lv_iadd hx hb dX0_formOf_4 ?_
                        refine va_gets hx hb hww.1 hS hown (hts (.fieldLink RX0 66 "WordForms" "FORMS" "[I") (by decide +kernel)) (fun _ h => h) dX0_formOf_5 ?_
                        refine va_tlen (v := 42) hx hb hww.2 hS (by decide) dX0_formOf_8 ?_
                        refine lv_icmp_ge (tgt := 41) hx hb dX0_formOf_9 (by decide) (fun c => absurd c (by decide)) (fun _ => ?_)
                        refine lv_iload_n hx hb dX0_formOf_12 rfl (lv_at hl 1 rfl) ?_
                        refine va_gets hx hb hww.1 hS hown (hts (.fieldLink RX0 66 "WordForms" "FORMS" "[I") (by decide +kernel)) (fun _ h => h) dX0_formOf_13 ?_
                        refine lv_iload_n hx hb dX0_formOf_16 rfl (lv_at hl 0 rfl) ?_
                        refine va_ti (v := .int (-67108864 : Int32)) hx hb hww.2 hS (show ¬ ((22 : Int32) < 0 ∨ 42 ≤ ((22 : Int32)).toNatClampNeg) from by decide) (congrArg Value.int (show fm_t.getD ((22 : Int32)).toNatClampNeg 0 = (-67108864 : Int32) from by decide)) dX0_formOf_17 ?_
                        refine lv_iand hx hb dX0_formOf_18 ?_
                        refine va_gets hx hb hww.1 hS hown (hts (.fieldLink RX0 66 "WordForms" "FORMS" "[I") (by decide +kernel)) (fun _ h => h) dX0_formOf_19 ?_
                        refine lv_iload_n hx hb dX0_formOf_22 rfl (lv_at hl 0 rfl) ?_
                        refine lv_iconst (v := 1) hx hb dX0_formOf_23 (by decide) ?_
                        refine lv_iadd hx hb dX0_formOf_24 ?_
                        refine va_ti (v := .int (335544320 : Int32)) hx hb hww.2 hS (show ¬ (((22 : Int32) + (1 : Int32)) < 0 ∨ 42 ≤ (((22 : Int32) + (1 : Int32))).toNatClampNeg) from by decide) (congrArg Value.int (show fm_t.getD (((22 : Int32) + (1 : Int32))).toNatClampNeg 0 = (335544320 : Int32) from by decide)) dX0_formOf_25 ?_
                        refine lv_icmp_ne (tgt := 35) hx hb dX0_formOf_26 (by decide) (fun c_12 => ?_) (fun c_12 => ?_)
                        · -- taken
                          refine lv_iinc (v := 24) (lv' := [(1, .int (24 : Int32)), (0, .int p0)]) hx hb dX0_formOf_35 hl (k := 0) rfl (by decide) (by decide) rfl (fun ls hl => ?_)
                          refine lv_goto (tgt := 2) hx hb dX0_formOf_38 (by decide) ?_
                          refine lv_iload_n hx hb dX0_formOf_2 rfl (lv_at hl 0 rfl) ?_
                          refine lv_iconst (v := 1) hx hb dX0_formOf_3 (by decide) ?_
                          refine lv_iadd hx hb dX0_formOf_4 ?_
                          refine va_gets hx hb hww.1 hS hown (hts (.fieldLink RX0 66 "WordForms" "FORMS" "[I") (by decide +kernel)) (fun _ h => h) dX0_formOf_5 ?_
                          refine va_tlen (v := 42) hx hb hww.2 hS (by decide) dX0_formOf_8 ?_
                          refine lv_icmp_ge (tgt := 41) hx hb dX0_formOf_9 (by decide) (fun c => absurd c (by decide)) (fun _ => ?_)
                          refine lv_iload_n hx hb dX0_formOf_12 rfl (lv_at hl 1 rfl) ?_
                          refine va_gets hx hb hww.1 hS hown (hts (.fieldLink RX0 66 "WordForms" "FORMS" "[I") (by decide +kernel)) (fun _ h => h) dX0_formOf_13 ?_
                          refine lv_iload_n hx hb dX0_formOf_16 rfl (lv_at hl 0 rfl) ?_
                          refine va_ti (v := .int (-67108864 : Int32)) hx hb hww.2 hS (show ¬ ((24 : Int32) < 0 ∨ 42 ≤ ((24 : Int32)).toNatClampNeg) from by decide) (congrArg Value.int (show fm_t.getD ((24 : Int32)).toNatClampNeg 0 = (-67108864 : Int32) from by decide)) dX0_formOf_17 ?_
                          refine lv_iand hx hb dX0_formOf_18 ?_
                          refine va_gets hx hb hww.1 hS hown (hts (.fieldLink RX0 66 "WordForms" "FORMS" "[I") (by decide +kernel)) (fun _ h => h) dX0_formOf_19 ?_
                          refine lv_iload_n hx hb dX0_formOf_22 rfl (lv_at hl 0 rfl) ?_
                          refine lv_iconst (v := 1) hx hb dX0_formOf_23 (by decide) ?_
                          refine lv_iadd hx hb dX0_formOf_24 ?_
                          refine va_ti (v := .int (-1811939328 : Int32)) hx hb hww.2 hS (show ¬ (((24 : Int32) + (1 : Int32)) < 0 ∨ 42 ≤ (((24 : Int32) + (1 : Int32))).toNatClampNeg) from by decide) (congrArg Value.int (show fm_t.getD (((24 : Int32) + (1 : Int32))).toNatClampNeg 0 = (-1811939328 : Int32) from by decide)) dX0_formOf_25 ?_
                          refine lv_icmp_ne (tgt := 35) hx hb dX0_formOf_26 (by decide) (fun c_13 => ?_) (fun c_13 => ?_)
                          · -- taken
                            refine lv_iinc (v := 26) (lv' := [(1, .int (26 : Int32)), (0, .int p0)]) hx hb dX0_formOf_35 hl (k := 0) rfl (by decide) (by decide) rfl (fun ls hl => ?_)
                            refine lv_goto (tgt := 2) hx hb dX0_formOf_38 (by decide) ?_
                            refine lv_iload_n hx hb dX0_formOf_2 rfl (lv_at hl 0 rfl) ?_
                            refine lv_iconst (v := 1) hx hb dX0_formOf_3 (by decide) ?_
                            refine lv_iadd hx hb dX0_formOf_4 ?_
                            refine va_gets hx hb hww.1 hS hown (hts (.fieldLink RX0 66 "WordForms" "FORMS" "[I") (by decide +kernel)) (fun _ h => h) dX0_formOf_5 ?_
                            refine va_tlen (v := 42) hx hb hww.2 hS (by decide) dX0_formOf_8 ?_
                            refine lv_icmp_ge (tgt := 41) hx hb dX0_formOf_9 (by decide) (fun c => absurd c (by decide)) (fun _ => ?_)
                            refine lv_iload_n hx hb dX0_formOf_12 rfl (lv_at hl 1 rfl) ?_
                            refine va_gets hx hb hww.1 hS hown (hts (.fieldLink RX0 66 "WordForms" "FORMS" "[I") (by decide +kernel)) (fun _ h => h) dX0_formOf_13 ?_
                            refine lv_iload_n hx hb dX0_formOf_16 rfl (lv_at hl 0 rfl) ?_
                            refine va_ti (v := .int (-16777200 : Int32)) hx hb hww.2 hS (show ¬ ((26 : Int32) < 0 ∨ 42 ≤ ((26 : Int32)).toNatClampNeg) from by decide) (congrArg Value.int (show fm_t.getD ((26 : Int32)).toNatClampNeg 0 = (-16777200 : Int32) from by decide)) dX0_formOf_17 ?_
                            refine lv_iand hx hb dX0_formOf_18 ?_
                            refine va_gets hx hb hww.1 hS hown (hts (.fieldLink RX0 66 "WordForms" "FORMS" "[I") (by decide +kernel)) (fun _ h => h) dX0_formOf_19 ?_
                            refine lv_iload_n hx hb dX0_formOf_22 rfl (lv_at hl 0 rfl) ?_
                            refine lv_iconst (v := 1) hx hb dX0_formOf_23 (by decide) ?_
                            refine lv_iadd hx hb dX0_formOf_24 ?_
                            refine va_ti (v := .int (1409286144 : Int32)) hx hb hww.2 hS (show ¬ (((26 : Int32) + (1 : Int32)) < 0 ∨ 42 ≤ (((26 : Int32) + (1 : Int32))).toNatClampNeg) from by decide) (congrArg Value.int (show fm_t.getD (((26 : Int32) + (1 : Int32))).toNatClampNeg 0 = (1409286144 : Int32) from by decide)) dX0_formOf_25 ?_
                            refine lv_icmp_ne (tgt := 35) hx hb dX0_formOf_26 (by decide) (fun c_14 => ?_) (fun c_14 => ?_)
                            · -- taken
                              refine lv_iinc (v := 28) (lv' := [(1, .int (28 : Int32)), (0, .int p0)]) hx hb dX0_formOf_35 hl (k := 0) rfl (by decide) (by decide) rfl (fun ls hl => ?_)
                              refine lv_goto (tgt := 2) hx hb dX0_formOf_38 (by decide) ?_
                              refine lv_iload_n hx hb dX0_formOf_2 rfl (lv_at hl 0 rfl) ?_
                              refine lv_iconst (v := 1) hx hb dX0_formOf_3 (by decide) ?_
                              refine lv_iadd hx hb dX0_formOf_4 ?_
                              refine va_gets hx hb hww.1 hS hown (hts (.fieldLink RX0 66 "WordForms" "FORMS" "[I") (by decide +kernel)) (fun _ h => h) dX0_formOf_5 ?_
                              refine va_tlen (v := 42) hx hb hww.2 hS (by decide) dX0_formOf_8 ?_
                              refine lv_icmp_ge (tgt := 41) hx hb dX0_formOf_9 (by decide) (fun c => absurd c (by decide)) (fun _ => ?_)
                              refine lv_iload_n hx hb dX0_formOf_12 rfl (lv_at hl 1 rfl) ?_
                              refine va_gets hx hb hww.1 hS hown (hts (.fieldLink RX0 66 "WordForms" "FORMS" "[I") (by decide +kernel)) (fun _ h => h) dX0_formOf_13 ?_
                              refine lv_iload_n hx hb dX0_formOf_16 rfl (lv_at hl 0 rfl) ?_
                              refine va_ti (v := .int (2113929216 : Int32)) hx hb hww.2 hS (show ¬ ((28 : Int32) < 0 ∨ 42 ≤ ((28 : Int32)).toNatClampNeg) from by decide) (congrArg Value.int (show fm_t.getD ((28 : Int32)).toNatClampNeg 0 = (2113929216 : Int32) from by decide)) dX0_formOf_17 ?_
                              refine lv_iand hx hb dX0_formOf_18 ?_
                              refine va_gets hx hb hww.1 hS hown (hts (.fieldLink RX0 66 "WordForms" "FORMS" "[I") (by decide +kernel)) (fun _ h => h) dX0_formOf_19 ?_
                              refine lv_iload_n hx hb dX0_formOf_22 rfl (lv_at hl 0 rfl) ?_
                              refine lv_iconst (v := 1) hx hb dX0_formOf_23 (by decide) ?_
                              refine lv_iadd hx hb dX0_formOf_24 ?_
                              refine va_ti (v := .int (872415232 : Int32)) hx hb hww.2 hS (show ¬ (((28 : Int32) + (1 : Int32)) < 0 ∨ 42 ≤ (((28 : Int32) + (1 : Int32))).toNatClampNeg) from by decide) (congrArg Value.int (show fm_t.getD (((28 : Int32) + (1 : Int32))).toNatClampNeg 0 = (872415232 : Int32) from by decide)) dX0_formOf_25 ?_
                              refine lv_icmp_ne (tgt := 35) hx hb dX0_formOf_26 (by decide) (fun c_15 => ?_) (fun c_15 => ?_)
                              · -- taken
                                refine lv_iinc (v := 30) (lv' := [(1, .int (30 : Int32)), (0, .int p0)]) hx hb dX0_formOf_35 hl (k := 0) rfl (by decide) (by decide) rfl (fun ls hl => ?_)
                                refine lv_goto (tgt := 2) hx hb dX0_formOf_38 (by decide) ?_
                                refine lv_iload_n hx hb dX0_formOf_2 rfl (lv_at hl 0 rfl) ?_
                                refine lv_iconst (v := 1) hx hb dX0_formOf_3 (by decide) ?_
                                refine lv_iadd hx hb dX0_formOf_4 ?_
                                refine va_gets hx hb hww.1 hS hown (hts (.fieldLink RX0 66 "WordForms" "FORMS" "[I") (by decide +kernel)) (fun _ h => h) dX0_formOf_5 ?_
                                refine va_tlen (v := 42) hx hb hww.2 hS (by decide) dX0_formOf_8 ?_
                                refine lv_icmp_ge (tgt := 41) hx hb dX0_formOf_9 (by decide) (fun c => absurd c (by decide)) (fun _ => ?_)
                                refine lv_iload_n hx hb dX0_formOf_12 rfl (lv_at hl 1 rfl) ?_
                                refine va_gets hx hb hww.1 hS hown (hts (.fieldLink RX0 66 "WordForms" "FORMS" "[I") (by decide +kernel)) (fun _ h => h) dX0_formOf_13 ?_
                                refine lv_iload_n hx hb dX0_formOf_16 rfl (lv_at hl 0 rfl) ?_
                                refine va_ti (v := .int (2113929216 : Int32)) hx hb hww.2 hS (show ¬ ((30 : Int32) < 0 ∨ 42 ≤ ((30 : Int32)).toNatClampNeg) from by decide) (congrArg Value.int (show fm_t.getD ((30 : Int32)).toNatClampNeg 0 = (2113929216 : Int32) from by decide)) dX0_formOf_17 ?_
                                refine lv_iand hx hb dX0_formOf_18 ?_
                                refine va_gets hx hb hww.1 hS hown (hts (.fieldLink RX0 66 "WordForms" "FORMS" "[I") (by decide +kernel)) (fun _ h => h) dX0_formOf_19 ?_
                                refine lv_iload_n hx hb dX0_formOf_22 rfl (lv_at hl 0 rfl) ?_
                                refine lv_iconst (v := 1) hx hb dX0_formOf_23 (by decide) ?_
                                refine lv_iadd hx hb dX0_formOf_24 ?_
                                refine va_ti (v := .int (905969664 : Int32)) hx hb hww.2 hS (show ¬ (((30 : Int32) + (1 : Int32)) < 0 ∨ 42 ≤ (((30 : Int32) + (1 : Int32))).toNatClampNeg) from by decide) (congrArg Value.int (show fm_t.getD (((30 : Int32) + (1 : Int32))).toNatClampNeg 0 = (905969664 : Int32) from by decide)) dX0_formOf_25 ?_
                                refine lv_icmp_ne (tgt := 35) hx hb dX0_formOf_26 (by decide) (fun c_16 => ?_) (fun c_16 => ?_)
                                · -- taken
                                  refine lv_iinc (v := 32) (lv' := [(1, .int (32 : Int32)), (0, .int p0)]) hx hb dX0_formOf_35 hl (k := 0) rfl (by decide) (by decide) rfl (fun ls hl => ?_)
                                  refine lv_goto (tgt := 2) hx hb dX0_formOf_38 (by decide) ?_
                                  refine lv_iload_n hx hb dX0_formOf_2 rfl (lv_at hl 0 rfl) ?_
                                  refine lv_iconst (v := 1) hx hb dX0_formOf_3 (by decide) ?_
                                  refine lv_iadd hx hb dX0_formOf_4 ?_
                                  refine va_gets hx hb hww.1 hS hown (hts (.fieldLink RX0 66 "WordForms" "FORMS" "[I") (by decide +kernel)) (fun _ h => h) dX0_formOf_5 ?_
                                  refine va_tlen (v := 42) hx hb hww.2 hS (by decide) dX0_formOf_8 ?_
                                  refine lv_icmp_ge (tgt := 41) hx hb dX0_formOf_9 (by decide) (fun c => absurd c (by decide)) (fun _ => ?_)
                                  refine lv_iload_n hx hb dX0_formOf_12 rfl (lv_at hl 1 rfl) ?_
                                  refine va_gets hx hb hww.1 hS hown (hts (.fieldLink RX0 66 "WordForms" "FORMS" "[I") (by decide +kernel)) (fun _ h => h) dX0_formOf_13 ?_
                                  refine lv_iload_n hx hb dX0_formOf_16 rfl (lv_at hl 0 rfl) ?_
                                  refine va_ti (v := .int (-993 : Int32)) hx hb hww.2 hS (show ¬ ((32 : Int32) < 0 ∨ 42 ≤ ((32 : Int32)).toNatClampNeg) from by decide) (congrArg Value.int (show fm_t.getD ((32 : Int32)).toNatClampNeg 0 = (-993 : Int32) from by decide)) dX0_formOf_17 ?_
                                  refine lv_iand hx hb dX0_formOf_18 ?_
                                  refine va_gets hx hb hww.1 hS hown (hts (.fieldLink RX0 66 "WordForms" "FORMS" "[I") (by decide +kernel)) (fun _ h => h) dX0_formOf_19 ?_
                                  refine lv_iload_n hx hb dX0_formOf_22 rfl (lv_at hl 0 rfl) ?_
                                  refine lv_iconst (v := 1) hx hb dX0_formOf_23 (by decide) ?_
                                  refine lv_iadd hx hb dX0_formOf_24 ?_
                                  refine va_ti (v := .int (-702611456 : Int32)) hx hb hww.2 hS (show ¬ (((32 : Int32) + (1 : Int32)) < 0 ∨ 42 ≤ (((32 : Int32) + (1 : Int32))).toNatClampNeg) from by decide) (congrArg Value.int (show fm_t.getD (((32 : Int32) + (1 : Int32))).toNatClampNeg 0 = (-702611456 : Int32) from by decide)) dX0_formOf_25 ?_
                                  refine lv_icmp_ne (tgt := 35) hx hb dX0_formOf_26 (by decide) (fun c_17 => ?_) (fun c_17 => ?_)
                                  · -- taken
                                    refine lv_iinc (v := 34) (lv' := [(1, .int (34 : Int32)), (0, .int p0)]) hx hb dX0_formOf_35 hl (k := 0) rfl (by decide) (by decide) rfl (fun ls hl => ?_)
                                    refine lv_goto (tgt := 2) hx hb dX0_formOf_38 (by decide) ?_
                                    refine lv_iload_n hx hb dX0_formOf_2 rfl (lv_at hl 0 rfl) ?_
                                    refine lv_iconst (v := 1) hx hb dX0_formOf_3 (by decide) ?_
                                    refine lv_iadd hx hb dX0_formOf_4 ?_
                                    refine va_gets hx hb hww.1 hS hown (hts (.fieldLink RX0 66 "WordForms" "FORMS" "[I") (by decide +kernel)) (fun _ h => h) dX0_formOf_5 ?_
                                    refine va_tlen (v := 42) hx hb hww.2 hS (by decide) dX0_formOf_8 ?_
                                    refine lv_icmp_ge (tgt := 41) hx hb dX0_formOf_9 (by decide) (fun c => absurd c (by decide)) (fun _ => ?_)
                                    refine lv_iload_n hx hb dX0_formOf_12 rfl (lv_at hl 1 rfl) ?_
                                    refine va_gets hx hb hww.1 hS hown (hts (.fieldLink RX0 66 "WordForms" "FORMS" "[I") (by decide +kernel)) (fun _ h => h) dX0_formOf_13 ?_
                                    refine lv_iload_n hx hb dX0_formOf_16 rfl (lv_at hl 0 rfl) ?_
                                    refine va_ti (v := .int (-993 : Int32)) hx hb hww.2 hS (show ¬ ((34 : Int32) < 0 ∨ 42 ≤ ((34 : Int32)).toNatClampNeg) from by decide) (congrArg Value.int (show fm_t.getD ((34 : Int32)).toNatClampNeg 0 = (-993 : Int32) from by decide)) dX0_formOf_17 ?_
                                    refine lv_iand hx hb dX0_formOf_18 ?_
                                    refine va_gets hx hb hww.1 hS hown (hts (.fieldLink RX0 66 "WordForms" "FORMS" "[I") (by decide +kernel)) (fun _ h => h) dX0_formOf_19 ?_
                                    refine lv_iload_n hx hb dX0_formOf_22 rfl (lv_at hl 0 rfl) ?_
                                    refine lv_iconst (v := 1) hx hb dX0_formOf_23 (by decide) ?_
                                    refine lv_iadd hx hb dX0_formOf_24 ?_
                                    refine va_ti (v := .int (-700514304 : Int32)) hx hb hww.2 hS (show ¬ (((34 : Int32) + (1 : Int32)) < 0 ∨ 42 ≤ (((34 : Int32) + (1 : Int32))).toNatClampNeg) from by decide) (congrArg Value.int (show fm_t.getD (((34 : Int32) + (1 : Int32))).toNatClampNeg 0 = (-700514304 : Int32) from by decide)) dX0_formOf_25 ?_
                                    refine lv_icmp_ne (tgt := 35) hx hb dX0_formOf_26 (by decide) (fun c_18 => ?_) (fun c_18 => ?_)
                                    · -- taken
                                      refine lv_iinc (v := 36) (lv' := [(1, .int (36 : Int32)), (0, .int p0)]) hx hb dX0_formOf_35 hl (k := 0) rfl (by decide) (by decide) rfl (fun ls hl => ?_)
                                      refine lv_goto (tgt := 2) hx hb dX0_formOf_38 (by decide) ?_
                                      refine lv_iload_n hx hb dX0_formOf_2 rfl (lv_at hl 0 rfl) ?_
                                      refine lv_iconst (v := 1) hx hb dX0_formOf_3 (by decide) ?_
                                      refine lv_iadd hx hb dX0_formOf_4 ?_
                                      refine va_gets hx hb hww.1 hS hown (hts (.fieldLink RX0 66 "WordForms" "FORMS" "[I") (by decide +kernel)) (fun _ h => h) dX0_formOf_5 ?_
                                      refine va_tlen (v := 42) hx hb hww.2 hS (by decide) dX0_formOf_8 ?_
                                      refine lv_icmp_ge (tgt := 41) hx hb dX0_formOf_9 (by decide) (fun c => absurd c (by decide)) (fun _ => ?_)
                                      refine lv_iload_n hx hb dX0_formOf_12 rfl (lv_at hl 1 rfl) ?_
                                      refine va_gets hx hb hww.1 hS hown (hts (.fieldLink RX0 66 "WordForms" "FORMS" "[I") (by decide +kernel)) (fun _ h => h) dX0_formOf_13 ?_
                                      refine lv_iload_n hx hb dX0_formOf_16 rfl (lv_at hl 0 rfl) ?_
                                      refine va_ti (v := .int (-993 : Int32)) hx hb hww.2 hS (show ¬ ((36 : Int32) < 0 ∨ 42 ≤ ((36 : Int32)).toNatClampNeg) from by decide) (congrArg Value.int (show fm_t.getD ((36 : Int32)).toNatClampNeg 0 = (-993 : Int32) from by decide)) dX0_formOf_17 ?_
                                      refine lv_iand hx hb dX0_formOf_18 ?_
                                      refine va_gets hx hb hww.1 hS hown (hts (.fieldLink RX0 66 "WordForms" "FORMS" "[I") (by decide +kernel)) (fun _ h => h) dX0_formOf_19 ?_
                                      refine lv_iload_n hx hb dX0_formOf_22 rfl (lv_at hl 0 rfl) ?_
                                      refine lv_iconst (v := 1) hx hb dX0_formOf_23 (by decide) ?_
                                      refine lv_iadd hx hb dX0_formOf_24 ?_
                                      refine va_ti (v := .int (-698417152 : Int32)) hx hb hww.2 hS (show ¬ (((36 : Int32) + (1 : Int32)) < 0 ∨ 42 ≤ (((36 : Int32) + (1 : Int32))).toNatClampNeg) from by decide) (congrArg Value.int (show fm_t.getD (((36 : Int32) + (1 : Int32))).toNatClampNeg 0 = (-698417152 : Int32) from by decide)) dX0_formOf_25 ?_
                                      refine lv_icmp_ne (tgt := 35) hx hb dX0_formOf_26 (by decide) (fun c_19 => ?_) (fun c_19 => ?_)
                                      · -- taken
                                        refine lv_iinc (v := 38) (lv' := [(1, .int (38 : Int32)), (0, .int p0)]) hx hb dX0_formOf_35 hl (k := 0) rfl (by decide) (by decide) rfl (fun ls hl => ?_)
                                        refine lv_goto (tgt := 2) hx hb dX0_formOf_38 (by decide) ?_
                                        refine lv_iload_n hx hb dX0_formOf_2 rfl (lv_at hl 0 rfl) ?_
                                        refine lv_iconst (v := 1) hx hb dX0_formOf_3 (by decide) ?_
                                        refine lv_iadd hx hb dX0_formOf_4 ?_
                                        refine va_gets hx hb hww.1 hS hown (hts (.fieldLink RX0 66 "WordForms" "FORMS" "[I") (by decide +kernel)) (fun _ h => h) dX0_formOf_5 ?_
                                        refine va_tlen (v := 42) hx hb hww.2 hS (by decide) dX0_formOf_8 ?_
                                        refine lv_icmp_ge (tgt := 41) hx hb dX0_formOf_9 (by decide) (fun c => absurd c (by decide)) (fun _ => ?_)
                                        refine lv_iload_n hx hb dX0_formOf_12 rfl (lv_at hl 1 rfl) ?_
                                        refine va_gets hx hb hww.1 hS hown (hts (.fieldLink RX0 66 "WordForms" "FORMS" "[I") (by decide +kernel)) (fun _ h => h) dX0_formOf_13 ?_
                                        refine lv_iload_n hx hb dX0_formOf_16 rfl (lv_at hl 0 rfl) ?_
                                        refine va_ti (v := .int (-2097121 : Int32)) hx hb hww.2 hS (show ¬ ((38 : Int32) < 0 ∨ 42 ≤ ((38 : Int32)).toNatClampNeg) from by decide) (congrArg Value.int (show fm_t.getD ((38 : Int32)).toNatClampNeg 0 = (-2097121 : Int32) from by decide)) dX0_formOf_17 ?_
                                        refine lv_iand hx hb dX0_formOf_18 ?_
                                        refine va_gets hx hb hww.1 hS hown (hts (.fieldLink RX0 66 "WordForms" "FORMS" "[I") (by decide +kernel)) (fun _ h => h) dX0_formOf_19 ?_
                                        refine lv_iload_n hx hb dX0_formOf_22 rfl (lv_at hl 0 rfl) ?_
                                        refine lv_iconst (v := 1) hx hb dX0_formOf_23 (by decide) ?_
                                        refine lv_iadd hx hb dX0_formOf_24 ?_
                                        refine va_ti (v := .int (-738197503 : Int32)) hx hb hww.2 hS (show ¬ (((38 : Int32) + (1 : Int32)) < 0 ∨ 42 ≤ (((38 : Int32) + (1 : Int32))).toNatClampNeg) from by decide) (congrArg Value.int (show fm_t.getD (((38 : Int32) + (1 : Int32))).toNatClampNeg 0 = (-738197503 : Int32) from by decide)) dX0_formOf_25 ?_
                                        refine lv_icmp_ne (tgt := 35) hx hb dX0_formOf_26 (by decide) (fun c_20 => ?_) (fun c_20 => ?_)
                                        · -- taken
                                          refine lv_iinc (v := 40) (lv' := [(1, .int (40 : Int32)), (0, .int p0)]) hx hb dX0_formOf_35 hl (k := 0) rfl (by decide) (by decide) rfl (fun ls hl => ?_)
                                          refine lv_goto (tgt := 2) hx hb dX0_formOf_38 (by decide) ?_
                                          refine lv_iload_n hx hb dX0_formOf_2 rfl (lv_at hl 0 rfl) ?_
                                          refine lv_iconst (v := 1) hx hb dX0_formOf_3 (by decide) ?_
                                          refine lv_iadd hx hb dX0_formOf_4 ?_
                                          refine va_gets hx hb hww.1 hS hown (hts (.fieldLink RX0 66 "WordForms" "FORMS" "[I") (by decide +kernel)) (fun _ h => h) dX0_formOf_5 ?_
                                          refine va_tlen (v := 42) hx hb hww.2 hS (by decide) dX0_formOf_8 ?_
                                          refine lv_icmp_ge (tgt := 41) hx hb dX0_formOf_9 (by decide) (fun c => absurd c (by decide)) (fun _ => ?_)
                                          refine lv_iload_n hx hb dX0_formOf_12 rfl (lv_at hl 1 rfl) ?_
                                          refine va_gets hx hb hww.1 hS hown (hts (.fieldLink RX0 66 "WordForms" "FORMS" "[I") (by decide +kernel)) (fun _ h => h) dX0_formOf_13 ?_
                                          refine lv_iload_n hx hb dX0_formOf_16 rfl (lv_at hl 0 rfl) ?_
                                          refine va_ti (v := .int (-1 : Int32)) hx hb hww.2 hS (show ¬ ((40 : Int32) < 0 ∨ 42 ≤ ((40 : Int32)).toNatClampNeg) from by decide) (congrArg Value.int (show fm_t.getD ((40 : Int32)).toNatClampNeg 0 = (-1 : Int32) from by decide)) dX0_formOf_17 ?_
                                          refine lv_iand hx hb dX0_formOf_18 ?_
                                          refine va_gets hx hb hww.1 hS hown (hts (.fieldLink RX0 66 "WordForms" "FORMS" "[I") (by decide +kernel)) (fun _ h => h) dX0_formOf_19 ?_
                                          refine lv_iload_n hx hb dX0_formOf_22 rfl (lv_at hl 0 rfl) ?_
                                          refine lv_iconst (v := 1) hx hb dX0_formOf_23 (by decide) ?_
                                          refine lv_iadd hx hb dX0_formOf_24 ?_
                                          refine va_ti (v := .int (-721215457 : Int32)) hx hb hww.2 hS (show ¬ (((40 : Int32) + (1 : Int32)) < 0 ∨ 42 ≤ (((40 : Int32) + (1 : Int32))).toNatClampNeg) from by decide) (congrArg Value.int (show fm_t.getD (((40 : Int32) + (1 : Int32))).toNatClampNeg 0 = (-721215457 : Int32) from by decide)) dX0_formOf_25 ?_
                                          refine lv_icmp_ne (tgt := 35) hx hb dX0_formOf_26 (by decide) (fun c_21 => ?_) (fun c_21 => ?_)
                                          · -- taken
                                            refine lv_iinc (v := 42) (lv' := [(1, .int (42 : Int32)), (0, .int p0)]) hx hb dX0_formOf_35 hl (k := 0) rfl (by decide) (by decide) rfl (fun ls hl => ?_)
                                            refine lv_goto (tgt := 2) hx hb dX0_formOf_38 (by decide) ?_
                                            refine lv_iload_n hx hb dX0_formOf_2 rfl (lv_at hl 0 rfl) ?_
                                            refine lv_iconst (v := 1) hx hb dX0_formOf_3 (by decide) ?_
                                            refine lv_iadd hx hb dX0_formOf_4 ?_
                                            refine va_gets hx hb hww.1 hS hown (hts (.fieldLink RX0 66 "WordForms" "FORMS" "[I") (by decide +kernel)) (fun _ h => h) dX0_formOf_5 ?_
                                            refine va_tlen (v := 42) hx hb hww.2 hS (by decide) dX0_formOf_8 ?_
                                            refine lv_icmp_ge (tgt := 41) hx hb dX0_formOf_9 (by decide) (fun _ => ?_) (fun c => absurd c (by decide))
                                            refine lv_iconst (v := 0) hx hb dX0_formOf_41 (by decide) ?_
                                            exact W.iret (v := (0 : Int32)) hx hb hr (fun t ht hW => ⟨⟨(0 : Int32), (), rfl, by rw [fX0_formOf, if_neg c_1, if_neg c_2, if_neg c_3, if_neg c_4, if_neg c_5, if_neg c_6, if_neg c_7, if_neg c_8, if_neg c_9, if_neg c_10, if_neg c_11, if_neg c_12, if_neg c_13, if_neg c_14, if_neg c_15, if_neg c_16, if_neg c_17, if_neg c_18, if_neg c_19, if_neg c_20, if_neg c_21], trivial⟩, hS.F ht⟩) hS.2.2 dX0_formOf_42
                                          · -- not taken
                                            refine lv_iload_n hx hb dX0_formOf_29 rfl (lv_at hl 0 rfl) ?_
                                            refine lv_iconst (v := 2) hx hb dX0_formOf_30 (by decide) ?_
                                            refine lv_idiv hx hb dX0_formOf_31 (by decide) ?_
                                            refine lv_iconst (v := 1) hx hb dX0_formOf_32 (by decide) ?_
                                            refine lv_iadd hx hb dX0_formOf_33 ?_
                                            exact W.iret (v := (((40 : Int32) / (2 : Int32)) + (1 : Int32))) hx hb hr (fun t ht hW => ⟨⟨(((40 : Int32) / (2 : Int32)) + (1 : Int32)), (), rfl, by rw [fX0_formOf, if_neg c_1, if_neg c_2, if_neg c_3, if_neg c_4, if_neg c_5, if_neg c_6, if_neg c_7, if_neg c_8, if_neg c_9, if_neg c_10, if_neg c_11, if_neg c_12, if_neg c_13, if_neg c_14, if_neg c_15, if_neg c_16, if_neg c_17, if_neg c_18, if_neg c_19, if_neg c_20, if_pos c_21], trivial⟩, hS.F ht⟩) hS.2.2 dX0_formOf_34
                                        · -- not taken
                                          refine lv_iload_n hx hb dX0_formOf_29 rfl (lv_at hl 0 rfl) ?_
                                          refine lv_iconst (v := 2) hx hb dX0_formOf_30 (by decide) ?_
                                          refine lv_idiv hx hb dX0_formOf_31 (by decide) ?_
                                          refine lv_iconst (v := 1) hx hb dX0_formOf_32 (by decide) ?_
                                          refine lv_iadd hx hb dX0_formOf_33 ?_
                                          exact W.iret (v := (((38 : Int32) / (2 : Int32)) + (1 : Int32))) hx hb hr (fun t ht hW => ⟨⟨(((38 : Int32) / (2 : Int32)) + (1 : Int32)), (), rfl, by rw [fX0_formOf, if_neg c_1, if_neg c_2, if_neg c_3, if_neg c_4, if_neg c_5, if_neg c_6, if_neg c_7, if_neg c_8, if_neg c_9, if_neg c_10, if_neg c_11, if_neg c_12, if_neg c_13, if_neg c_14, if_neg c_15, if_neg c_16, if_neg c_17, if_neg c_18, if_neg c_19, if_pos c_20], trivial⟩, hS.F ht⟩) hS.2.2 dX0_formOf_34
                                      · -- not taken
                                        refine lv_iload_n hx hb dX0_formOf_29 rfl (lv_at hl 0 rfl) ?_
                                        refine lv_iconst (v := 2) hx hb dX0_formOf_30 (by decide) ?_
                                        refine lv_idiv hx hb dX0_formOf_31 (by decide) ?_
                                        refine lv_iconst (v := 1) hx hb dX0_formOf_32 (by decide) ?_
                                        refine lv_iadd hx hb dX0_formOf_33 ?_
                                        exact W.iret (v := (((36 : Int32) / (2 : Int32)) + (1 : Int32))) hx hb hr (fun t ht hW => ⟨⟨(((36 : Int32) / (2 : Int32)) + (1 : Int32)), (), rfl, by rw [fX0_formOf, if_neg c_1, if_neg c_2, if_neg c_3, if_neg c_4, if_neg c_5, if_neg c_6, if_neg c_7, if_neg c_8, if_neg c_9, if_neg c_10, if_neg c_11, if_neg c_12, if_neg c_13, if_neg c_14, if_neg c_15, if_neg c_16, if_neg c_17, if_neg c_18, if_pos c_19], trivial⟩, hS.F ht⟩) hS.2.2 dX0_formOf_34
                                    · -- not taken
                                      refine lv_iload_n hx hb dX0_formOf_29 rfl (lv_at hl 0 rfl) ?_
                                      refine lv_iconst (v := 2) hx hb dX0_formOf_30 (by decide) ?_
                                      refine lv_idiv hx hb dX0_formOf_31 (by decide) ?_
                                      refine lv_iconst (v := 1) hx hb dX0_formOf_32 (by decide) ?_
                                      refine lv_iadd hx hb dX0_formOf_33 ?_
                                      exact W.iret (v := (((34 : Int32) / (2 : Int32)) + (1 : Int32))) hx hb hr (fun t ht hW => ⟨⟨(((34 : Int32) / (2 : Int32)) + (1 : Int32)), (), rfl, by rw [fX0_formOf, if_neg c_1, if_neg c_2, if_neg c_3, if_neg c_4, if_neg c_5, if_neg c_6, if_neg c_7, if_neg c_8, if_neg c_9, if_neg c_10, if_neg c_11, if_neg c_12, if_neg c_13, if_neg c_14, if_neg c_15, if_neg c_16, if_neg c_17, if_pos c_18], trivial⟩, hS.F ht⟩) hS.2.2 dX0_formOf_34
                                  · -- not taken
                                    refine lv_iload_n hx hb dX0_formOf_29 rfl (lv_at hl 0 rfl) ?_
                                    refine lv_iconst (v := 2) hx hb dX0_formOf_30 (by decide) ?_
                                    refine lv_idiv hx hb dX0_formOf_31 (by decide) ?_
                                    refine lv_iconst (v := 1) hx hb dX0_formOf_32 (by decide) ?_
                                    refine lv_iadd hx hb dX0_formOf_33 ?_
                                    exact W.iret (v := (((32 : Int32) / (2 : Int32)) + (1 : Int32))) hx hb hr (fun t ht hW => ⟨⟨(((32 : Int32) / (2 : Int32)) + (1 : Int32)), (), rfl, by rw [fX0_formOf, if_neg c_1, if_neg c_2, if_neg c_3, if_neg c_4, if_neg c_5, if_neg c_6, if_neg c_7, if_neg c_8, if_neg c_9, if_neg c_10, if_neg c_11, if_neg c_12, if_neg c_13, if_neg c_14, if_neg c_15, if_neg c_16, if_pos c_17], trivial⟩, hS.F ht⟩) hS.2.2 dX0_formOf_34
                                · -- not taken
                                  refine lv_iload_n hx hb dX0_formOf_29 rfl (lv_at hl 0 rfl) ?_
                                  refine lv_iconst (v := 2) hx hb dX0_formOf_30 (by decide) ?_
                                  refine lv_idiv hx hb dX0_formOf_31 (by decide) ?_
                                  refine lv_iconst (v := 1) hx hb dX0_formOf_32 (by decide) ?_
                                  refine lv_iadd hx hb dX0_formOf_33 ?_
                                  exact W.iret (v := (((30 : Int32) / (2 : Int32)) + (1 : Int32))) hx hb hr (fun t ht hW => ⟨⟨(((30 : Int32) / (2 : Int32)) + (1 : Int32)), (), rfl, by rw [fX0_formOf, if_neg c_1, if_neg c_2, if_neg c_3, if_neg c_4, if_neg c_5, if_neg c_6, if_neg c_7, if_neg c_8, if_neg c_9, if_neg c_10, if_neg c_11, if_neg c_12, if_neg c_13, if_neg c_14, if_neg c_15, if_pos c_16], trivial⟩, hS.F ht⟩) hS.2.2 dX0_formOf_34
                              · -- not taken
                                refine lv_iload_n hx hb dX0_formOf_29 rfl (lv_at hl 0 rfl) ?_
                                refine lv_iconst (v := 2) hx hb dX0_formOf_30 (by decide) ?_
                                refine lv_idiv hx hb dX0_formOf_31 (by decide) ?_
                                refine lv_iconst (v := 1) hx hb dX0_formOf_32 (by decide) ?_
                                refine lv_iadd hx hb dX0_formOf_33 ?_
                                exact W.iret (v := (((28 : Int32) / (2 : Int32)) + (1 : Int32))) hx hb hr (fun t ht hW => ⟨⟨(((28 : Int32) / (2 : Int32)) + (1 : Int32)), (), rfl, by rw [fX0_formOf, if_neg c_1, if_neg c_2, if_neg c_3, if_neg c_4, if_neg c_5, if_neg c_6, if_neg c_7, if_neg c_8, if_neg c_9, if_neg c_10, if_neg c_11, if_neg c_12, if_neg c_13, if_neg c_14, if_pos c_15], trivial⟩, hS.F ht⟩) hS.2.2 dX0_formOf_34
                            · -- not taken
                              refine lv_iload_n hx hb dX0_formOf_29 rfl (lv_at hl 0 rfl) ?_
                              refine lv_iconst (v := 2) hx hb dX0_formOf_30 (by decide) ?_
                              refine lv_idiv hx hb dX0_formOf_31 (by decide) ?_
                              refine lv_iconst (v := 1) hx hb dX0_formOf_32 (by decide) ?_
                              refine lv_iadd hx hb dX0_formOf_33 ?_
                              exact W.iret (v := (((26 : Int32) / (2 : Int32)) + (1 : Int32))) hx hb hr (fun t ht hW => ⟨⟨(((26 : Int32) / (2 : Int32)) + (1 : Int32)), (), rfl, by rw [fX0_formOf, if_neg c_1, if_neg c_2, if_neg c_3, if_neg c_4, if_neg c_5, if_neg c_6, if_neg c_7, if_neg c_8, if_neg c_9, if_neg c_10, if_neg c_11, if_neg c_12, if_neg c_13, if_pos c_14], trivial⟩, hS.F ht⟩) hS.2.2 dX0_formOf_34
                          · -- not taken
                            refine lv_iload_n hx hb dX0_formOf_29 rfl (lv_at hl 0 rfl) ?_
                            refine lv_iconst (v := 2) hx hb dX0_formOf_30 (by decide) ?_
                            refine lv_idiv hx hb dX0_formOf_31 (by decide) ?_
                            refine lv_iconst (v := 1) hx hb dX0_formOf_32 (by decide) ?_
                            refine lv_iadd hx hb dX0_formOf_33 ?_
                            exact W.iret (v := (((24 : Int32) / (2 : Int32)) + (1 : Int32))) hx hb hr (fun t ht hW => ⟨⟨(((24 : Int32) / (2 : Int32)) + (1 : Int32)), (), rfl, by rw [fX0_formOf, if_neg c_1, if_neg c_2, if_neg c_3, if_neg c_4, if_neg c_5, if_neg c_6, if_neg c_7, if_neg c_8, if_neg c_9, if_neg c_10, if_neg c_11, if_neg c_12, if_pos c_13], trivial⟩, hS.F ht⟩) hS.2.2 dX0_formOf_34
                        · -- not taken
                          refine lv_iload_n hx hb dX0_formOf_29 rfl (lv_at hl 0 rfl) ?_
                          refine lv_iconst (v := 2) hx hb dX0_formOf_30 (by decide) ?_
                          refine lv_idiv hx hb dX0_formOf_31 (by decide) ?_
                          refine lv_iconst (v := 1) hx hb dX0_formOf_32 (by decide) ?_
                          refine lv_iadd hx hb dX0_formOf_33 ?_
                          exact W.iret (v := (((22 : Int32) / (2 : Int32)) + (1 : Int32))) hx hb hr (fun t ht hW => ⟨⟨(((22 : Int32) / (2 : Int32)) + (1 : Int32)), (), rfl, by rw [fX0_formOf, if_neg c_1, if_neg c_2, if_neg c_3, if_neg c_4, if_neg c_5, if_neg c_6, if_neg c_7, if_neg c_8, if_neg c_9, if_neg c_10, if_neg c_11, if_pos c_12], trivial⟩, hS.F ht⟩) hS.2.2 dX0_formOf_34
                      · -- not taken
                        refine lv_iload_n hx hb dX0_formOf_29 rfl (lv_at hl 0 rfl) ?_
                        refine lv_iconst (v := 2) hx hb dX0_formOf_30 (by decide) ?_
                        refine lv_idiv hx hb dX0_formOf_31 (by decide) ?_
                        refine lv_iconst (v := 1) hx hb dX0_formOf_32 (by decide) ?_
                        refine lv_iadd hx hb dX0_formOf_33 ?_
                        exact W.iret (v := (((20 : Int32) / (2 : Int32)) + (1 : Int32))) hx hb hr (fun t ht hW => ⟨⟨(((20 : Int32) / (2 : Int32)) + (1 : Int32)), (), rfl, by rw [fX0_formOf, if_neg c_1, if_neg c_2, if_neg c_3, if_neg c_4, if_neg c_5, if_neg c_6, if_neg c_7, if_neg c_8, if_neg c_9, if_neg c_10, if_pos c_11], trivial⟩, hS.F ht⟩) hS.2.2 dX0_formOf_34
                    · -- not taken
                      refine lv_iload_n hx hb dX0_formOf_29 rfl (lv_at hl 0 rfl) ?_
                      refine lv_iconst (v := 2) hx hb dX0_formOf_30 (by decide) ?_
                      refine lv_idiv hx hb dX0_formOf_31 (by decide) ?_
                      refine lv_iconst (v := 1) hx hb dX0_formOf_32 (by decide) ?_
                      refine lv_iadd hx hb dX0_formOf_33 ?_
                      exact W.iret (v := (((18 : Int32) / (2 : Int32)) + (1 : Int32))) hx hb hr (fun t ht hW => ⟨⟨(((18 : Int32) / (2 : Int32)) + (1 : Int32)), (), rfl, by rw [fX0_formOf, if_neg c_1, if_neg c_2, if_neg c_3, if_neg c_4, if_neg c_5, if_neg c_6, if_neg c_7, if_neg c_8, if_neg c_9, if_pos c_10], trivial⟩, hS.F ht⟩) hS.2.2 dX0_formOf_34
                  · -- not taken
                    refine lv_iload_n hx hb dX0_formOf_29 rfl (lv_at hl 0 rfl) ?_
                    refine lv_iconst (v := 2) hx hb dX0_formOf_30 (by decide) ?_
                    refine lv_idiv hx hb dX0_formOf_31 (by decide) ?_
                    refine lv_iconst (v := 1) hx hb dX0_formOf_32 (by decide) ?_
                    refine lv_iadd hx hb dX0_formOf_33 ?_
                    exact W.iret (v := (((16 : Int32) / (2 : Int32)) + (1 : Int32))) hx hb hr (fun t ht hW => ⟨⟨(((16 : Int32) / (2 : Int32)) + (1 : Int32)), (), rfl, by rw [fX0_formOf, if_neg c_1, if_neg c_2, if_neg c_3, if_neg c_4, if_neg c_5, if_neg c_6, if_neg c_7, if_neg c_8, if_pos c_9], trivial⟩, hS.F ht⟩) hS.2.2 dX0_formOf_34
                · -- not taken
                  refine lv_iload_n hx hb dX0_formOf_29 rfl (lv_at hl 0 rfl) ?_
                  refine lv_iconst (v := 2) hx hb dX0_formOf_30 (by decide) ?_
                  refine lv_idiv hx hb dX0_formOf_31 (by decide) ?_
                  refine lv_iconst (v := 1) hx hb dX0_formOf_32 (by decide) ?_
                  refine lv_iadd hx hb dX0_formOf_33 ?_
                  exact W.iret (v := (((14 : Int32) / (2 : Int32)) + (1 : Int32))) hx hb hr (fun t ht hW => ⟨⟨(((14 : Int32) / (2 : Int32)) + (1 : Int32)), (), rfl, by rw [fX0_formOf, if_neg c_1, if_neg c_2, if_neg c_3, if_neg c_4, if_neg c_5, if_neg c_6, if_neg c_7, if_pos c_8], trivial⟩, hS.F ht⟩) hS.2.2 dX0_formOf_34
              · -- not taken
                refine lv_iload_n hx hb dX0_formOf_29 rfl (lv_at hl 0 rfl) ?_
                refine lv_iconst (v := 2) hx hb dX0_formOf_30 (by decide) ?_
                refine lv_idiv hx hb dX0_formOf_31 (by decide) ?_
                refine lv_iconst (v := 1) hx hb dX0_formOf_32 (by decide) ?_
                refine lv_iadd hx hb dX0_formOf_33 ?_
                exact W.iret (v := (((12 : Int32) / (2 : Int32)) + (1 : Int32))) hx hb hr (fun t ht hW => ⟨⟨(((12 : Int32) / (2 : Int32)) + (1 : Int32)), (), rfl, by rw [fX0_formOf, if_neg c_1, if_neg c_2, if_neg c_3, if_neg c_4, if_neg c_5, if_neg c_6, if_pos c_7], trivial⟩, hS.F ht⟩) hS.2.2 dX0_formOf_34
            · -- not taken
              refine lv_iload_n hx hb dX0_formOf_29 rfl (lv_at hl 0 rfl) ?_
              refine lv_iconst (v := 2) hx hb dX0_formOf_30 (by decide) ?_
              refine lv_idiv hx hb dX0_formOf_31 (by decide) ?_
              refine lv_iconst (v := 1) hx hb dX0_formOf_32 (by decide) ?_
              refine lv_iadd hx hb dX0_formOf_33 ?_
              exact W.iret (v := (((10 : Int32) / (2 : Int32)) + (1 : Int32))) hx hb hr (fun t ht hW => ⟨⟨(((10 : Int32) / (2 : Int32)) + (1 : Int32)), (), rfl, by rw [fX0_formOf, if_neg c_1, if_neg c_2, if_neg c_3, if_neg c_4, if_neg c_5, if_pos c_6], trivial⟩, hS.F ht⟩) hS.2.2 dX0_formOf_34
          · -- not taken
            refine lv_iload_n hx hb dX0_formOf_29 rfl (lv_at hl 0 rfl) ?_
            refine lv_iconst (v := 2) hx hb dX0_formOf_30 (by decide) ?_
            refine lv_idiv hx hb dX0_formOf_31 (by decide) ?_
            refine lv_iconst (v := 1) hx hb dX0_formOf_32 (by decide) ?_
            refine lv_iadd hx hb dX0_formOf_33 ?_
            exact W.iret (v := (((8 : Int32) / (2 : Int32)) + (1 : Int32))) hx hb hr (fun t ht hW => ⟨⟨(((8 : Int32) / (2 : Int32)) + (1 : Int32)), (), rfl, by rw [fX0_formOf, if_neg c_1, if_neg c_2, if_neg c_3, if_neg c_4, if_pos c_5], trivial⟩, hS.F ht⟩) hS.2.2 dX0_formOf_34
        · -- not taken
          refine lv_iload_n hx hb dX0_formOf_29 rfl (lv_at hl 0 rfl) ?_
          refine lv_iconst (v := 2) hx hb dX0_formOf_30 (by decide) ?_
          refine lv_idiv hx hb dX0_formOf_31 (by decide) ?_
          refine lv_iconst (v := 1) hx hb dX0_formOf_32 (by decide) ?_
          refine lv_iadd hx hb dX0_formOf_33 ?_
          exact W.iret (v := (((6 : Int32) / (2 : Int32)) + (1 : Int32))) hx hb hr (fun t ht hW => ⟨⟨(((6 : Int32) / (2 : Int32)) + (1 : Int32)), (), rfl, by rw [fX0_formOf, if_neg c_1, if_neg c_2, if_neg c_3, if_pos c_4], trivial⟩, hS.F ht⟩) hS.2.2 dX0_formOf_34
      · -- not taken
        refine lv_iload_n hx hb dX0_formOf_29 rfl (lv_at hl 0 rfl) ?_
        refine lv_iconst (v := 2) hx hb dX0_formOf_30 (by decide) ?_
        refine lv_idiv hx hb dX0_formOf_31 (by decide) ?_
        refine lv_iconst (v := 1) hx hb dX0_formOf_32 (by decide) ?_
        refine lv_iadd hx hb dX0_formOf_33 ?_
        exact W.iret (v := (((4 : Int32) / (2 : Int32)) + (1 : Int32))) hx hb hr (fun t ht hW => ⟨⟨(((4 : Int32) / (2 : Int32)) + (1 : Int32)), (), rfl, by rw [fX0_formOf, if_neg c_1, if_neg c_2, if_pos c_3], trivial⟩, hS.F ht⟩) hS.2.2 dX0_formOf_34
    · -- not taken
      refine lv_iload_n hx hb dX0_formOf_29 rfl (lv_at hl 0 rfl) ?_
      refine lv_iconst (v := 2) hx hb dX0_formOf_30 (by decide) ?_
      refine lv_idiv hx hb dX0_formOf_31 (by decide) ?_
      refine lv_iconst (v := 1) hx hb dX0_formOf_32 (by decide) ?_
      refine lv_iadd hx hb dX0_formOf_33 ?_
      exact W.iret (v := (((2 : Int32) / (2 : Int32)) + (1 : Int32))) hx hb hr (fun t ht hW => ⟨⟨(((2 : Int32) / (2 : Int32)) + (1 : Int32)), (), rfl, by rw [fX0_formOf, if_neg c_1, if_pos c_2], trivial⟩, hS.F ht⟩) hS.2.2 dX0_formOf_34
  · -- not taken
    refine lv_iload_n hx hb dX0_formOf_29 rfl (lv_at hl 0 rfl) ?_
    refine lv_iconst (v := 2) hx hb dX0_formOf_30 (by decide) ?_
    refine lv_idiv hx hb dX0_formOf_31 (by decide) ?_
    refine lv_iconst (v := 1) hx hb dX0_formOf_32 (by decide) ?_
    refine lv_iadd hx hb dX0_formOf_33 ?_
    exact W.iret (v := (((0 : Int32) / (2 : Int32)) + (1 : Int32))) hx hb hr (fun t ht hW => ⟨⟨(((0 : Int32) / (2 : Int32)) + (1 : Int32)), (), rfl, by rw [fX0_formOf, if_pos c_1], trivial⟩, hS.F ht⟩) hS.2.2 dX0_formOf_34
set_option maxHeartbeats 4000000 in
set_option maxRecDepth 100000 in
theorem mX0_lowBits (l : Launch) (sz : Nat) (p0 : Int32) : Met l yX0_lowBits wsX0_lowBits ({ frames := 0, cells := 0, slots := 0, locals := 0 }) (va_Pc [.int p0] (fun U => U.heap.size = sz)) (va_Qi (fun (r : Int32) (_ : Unit) => r = fX0_lowBits p0) (fun _ _ => True) (fun q : Nat => sz ≤ q)) 0 0 (fun q : Nat => sz ≤ q) := by
  refine Met.ofW (cc := cX0_lowBits) (maxL := 1) (ret := (some .int)) (by decide) rfl ?_
  intro p e s m args below meth c s₁ B hml hv
  obtain ⟨rfl, hsz⟩ := hv
  have hx := B.exec
  have hb := B.bytes
  have hr := B.returns
  have hts := atoms_spec (ws := wsX0_lowBits) B.pre
  have hown : s.vm.findClass RX0 = some m.cls := findClass_of_methodNamed B.named
  have hlocks := B.notSynchronized
  subst hsz
  have hS : va_S (fun q : Nat => s.heap.size ≤ q) s.heap s.heap [] := va_S.rf
  have hl := lv_entry ([.int p0]) (n := 1) (Nat.le_of_ble_eq_true rfl)
  rw [lg_entry_eq]
  generalize (lg_sl ([.int p0]) ++ List.replicate (1 - (lg_sl ([.int p0])).length) Slot.unset).toArray = ls at hl ⊢
  have hl : lv_has ls 1 [(0, .int p0)] := hl
  refine lv_iconst (v := 1) hx hb dX0_lowBits_0 (by decide) ?_
  refine lv_iload_n hx hb dX0_lowBits_1 rfl (lv_at hl 0 rfl) ?_
  refine lv_ishl hx hb dX0_lowBits_2 ?_
  refine lv_iconst (v := 1) hx hb dX0_lowBits_3 (by decide) ?_
  refine lv_isub hx hb dX0_lowBits_4 ?_
  exact W.iret (v := (((1 : Int32) <<< (p0 &&& 31)) - (1 : Int32))) hx hb hr (fun t ht hW => ⟨⟨(((1 : Int32) <<< (p0 &&& 31)) - (1 : Int32)), (), rfl, by rw [fX0_lowBits], trivial⟩, hS.F ht⟩) hS.2.2 dX0_lowBits_5
set_option maxHeartbeats 4000000 in
set_option maxRecDepth 100000 in
theorem mX0_bits (l : Launch) (sz : Nat) (p0 : Int32) (p1 : Int32) (p2 : Int32) : Met l yX0_bits wsX0_bits ({ frames := 1, cells := 0, slots := 0, locals := 20 }) (va_Pc [.int p0, .int p1, .int p2] (fun U => U.heap.size = sz)) (va_Qi (fun (r : Int32) (_ : Unit) => r = fX0_bits p0 p1 p2) (fun _ _ => True) (fun q : Nat => sz ≤ q)) 0 0 (fun q : Nat => sz ≤ q) := by
  refine Met.ofW (cc := cX0_bits) (maxL := 3) (ret := (some .int)) (by decide) rfl ?_
  intro p e s m args below meth c s₁ B hml hv
  obtain ⟨rfl, hsz⟩ := hv
  have hx := B.exec
  have hb := B.bytes
  have hr := B.returns
  have hts := atoms_spec (ws := wsX0_bits) B.pre
  have hown : s.vm.findClass RX0 = some m.cls := findClass_of_methodNamed B.named
  have hlocks := B.notSynchronized
  subst hsz
  have hS : va_S (fun q : Nat => s.heap.size ≤ q) s.heap s.heap [] := va_S.rf
  have hl := lv_entry ([.int p0, .int p1, .int p2]) (n := 3) (Nat.le_of_ble_eq_true rfl)
  rw [lg_entry_eq]
  generalize (lg_sl ([.int p0, .int p1, .int p2]) ++ List.replicate (3 - (lg_sl ([.int p0, .int p1, .int p2])).length) Slot.unset).toArray = ls at hl ⊢
  have hl : lv_has ls 3 [(0, .int p0), (1, .int p1), (2, .int p2)] := hl
  refine lv_iload_n hx hb dX0_bits_0 rfl (lv_at hl 0 rfl) ?_
  refine lv_iload_n hx hb dX0_bits_1 rfl (lv_at hl 1 rfl) ?_
  refine lv_iushr hx hb dX0_bits_2 rfl ?_
  refine lv_iload_n hx hb dX0_bits_3 rfl (lv_at hl 2 rfl) ?_
  refine va_calli (va_runS (As := [.int p2]) (rest := [.int (((p0).toUInt32 >>> ((p1).toUInt32 &&& Int32.toUInt32 31)).toInt32)]) ⟨hx, hb, hml, hown, hts⟩ (mX0_lowBits l s.heap.size p2) (va_cwS 1 hts gX0_bits_X0_lowBits rfl rfl rfl (by decide +kernel) ⟨Nat.le_of_ble_eq_true rfl, Nat.le_of_ble_eq_true rfl⟩) ⟨fb_pure, fun U hU hW => ⟨rfl, congrArg Array.size hU⟩⟩ rfl rfl hl.1 rfl (lv_room (Nat.le_of_ble_eq_true rfl)) dX0_bits_4 ⟨Nat.zero_le _, Nat.zero_le _⟩) hS (fun q _ h => Nat.le_trans hS.1 h) (fun q h => Nat.le_trans hS.1 h) (fun r_1 _ _ H_1 _ _ _ hw _ _ _ hS => ?_)
  subst hw
  refine lv_iand hx hb dX0_bits_7 ?_
  exact W.iret (v := ((((p0).toUInt32 >>> ((p1).toUInt32 &&& Int32.toUInt32 31)).toInt32) &&& (fX0_lowBits p2))) hx hb hr (fun t ht hW => ⟨⟨((((p0).toUInt32 >>> ((p1).toUInt32 &&& Int32.toUInt32 31)).toInt32) &&& (fX0_lowBits p2)), (), rfl, by rw [fX0_bits], trivial⟩, hS.F ht⟩) hS.2.2 dX0_bits_8
set_option maxHeartbeats 4000000 in
set_option maxRecDepth 100000 in
theorem mX0_isLong (l : Launch) (sz : Nat) (p0 : Int32) : Met l yX0_isLong wsX0_isLong ({ frames := 0, cells := 0, slots := 0, locals := 0 }) (va_Pc [.int p0] (fun U => U.heap.size = sz)) (va_Qi (fun (r : Int32) (_ : Unit) => r = fX0_isLong p0) (fun _ _ => True) (fun q : Nat => sz ≤ q)) 0 0 (fun q : Nat => sz ≤ q) := by
  refine Met.ofW (cc := cX0_isLong) (maxL := 1) (ret := (some .boolean)) (by decide) rfl ?_
  intro p e s m args below meth c s₁ B hml hv
  obtain ⟨rfl, hsz⟩ := hv
  have hx := B.exec
  have hb := B.bytes
  have hr := B.returns
  have hts := atoms_spec (ws := wsX0_isLong) B.pre
  have hown : s.vm.findClass RX0 = some m.cls := findClass_of_methodNamed B.named
  have hlocks := B.notSynchronized
  subst hsz
  have hS : va_S (fun q : Nat => s.heap.size ≤ q) s.heap s.heap [] := va_S.rf
  have hl := lv_entry ([.int p0]) (n := 1) (Nat.le_of_ble_eq_true rfl)
  rw [lg_entry_eq]
  generalize (lg_sl ([.int p0]) ++ List.replicate (1 - (lg_sl ([.int p0])).length) Slot.unset).toArray = ls at hl ⊢
  have hl : lv_has ls 1 [(0, .int p0)] := hl
  refine lv_iload_n hx hb dX0_isLong_0 rfl (lv_at hl 0 rfl) ?_
  refine lv_if_ge (tgt := 8) hx hb dX0_isLong_1 (by decide) (fun c_1 => ?_) (fun c_1 => ?_)
  · -- taken
    refine lv_iconst (v := 0) hx hb dX0_isLong_8 (by decide) ?_
    exact W.zret (v := (0 : Int32)) hx hb hr (nb_01 (Or.inl rfl)) (fun t ht hW => ⟨⟨(0 : Int32), (), rfl, by rw [fX0_isLong, if_pos c_1], trivial⟩, hS.F ht⟩) hS.2.2 dX0_isLong_9
  · -- not taken
    refine lv_iconst (v := 1) hx hb dX0_isLong_4 (by decide) ?_
    refine lv_goto (tgt := 9) hx hb dX0_isLong_5 (by decide) ?_
    exact W.zret (v := (1 : Int32)) hx hb hr (nb_01 (Or.inr rfl)) (fun t ht hW => ⟨⟨(1 : Int32), (), rfl, by rw [fX0_isLong, if_neg c_1], trivial⟩, hS.F ht⟩) hS.2.2 dX0_isLong_9
set_option maxHeartbeats 4000000 in
set_option maxRecDepth 100000 in
theorem mX0_isMovedWithin (l : Launch) (sz : Nat) (p0 : Int32) : Met l yX0_isMovedWithin wsX0_isMovedWithin ({ frames := 2, cells := 0, slots := 0, locals := 42 }) (va_Pc [.int p0] (fun U => U.heap.size = sz)) (va_Qi (fun (r : Int32) (_ : Unit) => r = fX0_isMovedWithin p0) (fun _ _ => True) (fun q : Nat => sz ≤ q)) 0 0 (fun q : Nat => sz ≤ q) := by
  refine Met.ofW (cc := cX0_isMovedWithin) (maxL := 1) (ret := (some .boolean)) (by decide) rfl ?_
  intro p e s m args below meth c s₁ B hml hv
  obtain ⟨rfl, hsz⟩ := hv
  have hx := B.exec
  have hb := B.bytes
  have hr := B.returns
  have hts := atoms_spec (ws := wsX0_isMovedWithin) B.pre
  have hown : s.vm.findClass RX0 = some m.cls := findClass_of_methodNamed B.named
  have hlocks := B.notSynchronized
  subst hsz
  have hS : va_S (fun q : Nat => s.heap.size ≤ q) s.heap s.heap [] := va_S.rf
  have hl := lv_entry ([.int p0]) (n := 1) (Nat.le_of_ble_eq_true rfl)
  rw [lg_entry_eq]
  generalize (lg_sl ([.int p0]) ++ List.replicate (1 - (lg_sl ([.int p0])).length) Slot.unset).toArray = ls at hl ⊢
  have hl : lv_has ls 1 [(0, .int p0)] := hl
  refine lv_iload_n hx hb dX0_isMovedWithin_0 rfl (lv_at hl 0 rfl) ?_
  refine va_calli (va_runS (As := [.int p0]) (rest := []) ⟨hx, hb, hml, hown, hts⟩ (mX0_isLong l s.heap.size p0) (va_cwS 1 hts gX0_isMovedWithin_X0_isLong rfl rfl rfl (by decide +kernel) ⟨Nat.le_of_ble_eq_true rfl, Nat.le_of_ble_eq_true rfl⟩) ⟨fb_pure, fun U hU hW => ⟨rfl, congrArg Array.size hU⟩⟩ rfl rfl hl.1 rfl (lv_room (Nat.le_of_ble_eq_true rfl)) dX0_isMovedWithin_1 ⟨Nat.zero_le _, Nat.zero_le _⟩) hS (fun q _ h => Nat.le_trans hS.1 h) (fun q h => Nat.le_trans hS.1 h) (fun r_1 _ _ H_1 _ _ _ hw _ _ _ hS => ?_)
  subst hw
  refine lv_if_ne (tgt := 20) hx hb dX0_isMovedWithin_4 (by decide) (fun c_2 => ?_) (fun c_2 => ?_)
  · -- taken
    refine lv_iconst (v := 1) hx hb dX0_isMovedWithin_20 (by decide) ?_
    refine lv_goto (tgt := 25) hx hb dX0_isMovedWithin_21 (by decide) ?_
    exact W.zret (v := (1 : Int32)) hx hb hr (nb_01 (Or.inr rfl)) (fun t ht hW => ⟨⟨(1 : Int32), (), rfl, by rw [fX0_isMovedWithin, if_neg c_2], trivial⟩, hS.F ht⟩) hS.2.2 dX0_isMovedWithin_25
  · -- not taken
    refine lv_iload_n hx hb dX0_isMovedWithin_7 rfl (lv_at hl 0 rfl) ?_
    refine lv_bipush (v := 10) hx hb dX0_isMovedWithin_8 (by decide) ?_
    refine lv_bipush (v := 6) hx hb dX0_isMovedWithin_10 (by decide) ?_
    refine va_calli (va_runS (As := [.int p0, .int (10 : Int32), .int (6 : Int32)]) (rest := []) ⟨hx, hb, hml, hown, hts⟩ (mX0_bits l H_1.size p0 (10 : Int32) (6 : Int32)) (va_cwS 3 hts gX0_isMovedWithin_X0_bits rfl rfl rfl (by decide +kernel) ⟨Nat.le_of_ble_eq_true rfl, Nat.le_of_ble_eq_true rfl⟩) ⟨fb_pure, fun U hU hW => ⟨rfl, congrArg Array.size hU⟩⟩ rfl rfl hl.1 rfl (lv_room (Nat.le_of_ble_eq_true rfl)) dX0_isMovedWithin_12 ⟨Nat.zero_le _, Nat.zero_le _⟩) hS (fun q _ h => Nat.le_trans hS.1 h) (fun q h => Nat.le_trans hS.1 h) (fun r_3 _ _ H_3 _ _ _ hw _ _ _ hS => ?_)
    subst hw
    refine lv_bipush (v := 32) hx hb dX0_isMovedWithin_15 (by decide) ?_
    refine lv_icmp_ge (tgt := 24) hx hb dX0_isMovedWithin_17 (by decide) (fun c_4 => ?_) (fun c_4 => ?_)
    · -- taken
      refine lv_iconst (v := 0) hx hb dX0_isMovedWithin_24 (by decide) ?_
      exact W.zret (v := (0 : Int32)) hx hb hr (nb_01 (Or.inl rfl)) (fun t ht hW => ⟨⟨(0 : Int32), (), rfl, by rw [fX0_isMovedWithin, if_pos c_2, if_pos c_4], trivial⟩, hS.F ht⟩) hS.2.2 dX0_isMovedWithin_25
    · -- not taken
      refine lv_iconst (v := 1) hx hb dX0_isMovedWithin_20 (by decide) ?_
      refine lv_goto (tgt := 25) hx hb dX0_isMovedWithin_21 (by decide) ?_
      exact W.zret (v := (1 : Int32)) hx hb hr (nb_01 (Or.inr rfl)) (fun t ht hW => ⟨⟨(1 : Int32), (), rfl, by rw [fX0_isMovedWithin, if_pos c_2, if_neg c_4], trivial⟩, hS.F ht⟩) hS.2.2 dX0_isMovedWithin_25
set_option maxHeartbeats 4000000 in
set_option maxRecDepth 100000 in
theorem mX0_isTwo (l : Launch) (sz : Nat) (p0 : Int32) : Met l yX0_isTwo wsX0_isTwo ({ frames := 0, cells := 0, slots := 0, locals := 0 }) (va_Pc [.int p0] (fun U => U.heap.size = sz)) (va_Qi (fun (r : Int32) (_ : Unit) => r = fX0_isTwo p0) (fun _ _ => True) (fun q : Nat => sz ≤ q)) 0 0 (fun q : Nat => sz ≤ q) := by
  refine Met.ofW (cc := cX0_isTwo) (maxL := 1) (ret := (some .boolean)) (by decide) rfl ?_
  intro p e s m args below meth c s₁ B hml hv
  obtain ⟨rfl, hsz⟩ := hv
  have hx := B.exec
  have hb := B.bytes
  have hr := B.returns
  have hts := atoms_spec (ws := wsX0_isTwo) B.pre
  have hown : s.vm.findClass RX0 = some m.cls := findClass_of_methodNamed B.named
  have hlocks := B.notSynchronized
  subst hsz
  have hS : va_S (fun q : Nat => s.heap.size ≤ q) s.heap s.heap [] := va_S.rf
  have hl := lv_entry ([.int p0]) (n := 1) (Nat.le_of_ble_eq_true rfl)
  rw [lg_entry_eq]
  generalize (lg_sl ([.int p0]) ++ List.replicate (1 - (lg_sl ([.int p0])).length) Slot.unset).toArray = ls at hl ⊢
  have hl : lv_has ls 1 [(0, .int p0)] := hl
  refine lv_iload_n hx hb dX0_isTwo_0 rfl (lv_at hl 0 rfl) ?_
  refine lv_iconst (v := 2) hx hb dX0_isTwo_1 (by decide) ?_
  refine lv_icmp_eq (tgt := 22) hx hb dX0_isTwo_2 (by decide) (fun c_1 => ?_) (fun c_1 => ?_)
  · -- taken
    refine lv_iconst (v := 1) hx hb dX0_isTwo_22 (by decide) ?_
    refine lv_goto (tgt := 27) hx hb dX0_isTwo_23 (by decide) ?_
    exact W.zret (v := (1 : Int32)) hx hb hr (nb_01 (Or.inr rfl)) (fun t ht hW => ⟨⟨(1 : Int32), (), rfl, by rw [fX0_isTwo, if_pos c_1], trivial⟩, hS.F ht⟩) hS.2.2 dX0_isTwo_27
  · -- not taken
    refine lv_iload_n hx hb dX0_isTwo_5 rfl (lv_at hl 0 rfl) ?_
    refine lv_iconst (v := 3) hx hb dX0_isTwo_6 (by decide) ?_
    refine lv_icmp_eq (tgt := 22) hx hb dX0_isTwo_7 (by decide) (fun c_2 => ?_) (fun c_2 => ?_)
    · -- taken
      refine lv_iconst (v := 1) hx hb dX0_isTwo_22 (by decide) ?_
      refine lv_goto (tgt := 27) hx hb dX0_isTwo_23 (by decide) ?_
      exact W.zret (v := (1 : Int32)) hx hb hr (nb_01 (Or.inr rfl)) (fun t ht hW => ⟨⟨(1 : Int32), (), rfl, by rw [fX0_isTwo, if_neg c_1, if_pos c_2], trivial⟩, hS.F ht⟩) hS.2.2 dX0_isTwo_27
    · -- not taken
      refine lv_iload_n hx hb dX0_isTwo_10 rfl (lv_at hl 0 rfl) ?_
      refine lv_bipush (v := 8) hx hb dX0_isTwo_11 (by decide) ?_
      refine lv_icmp_lt (tgt := 26) hx hb dX0_isTwo_13 (by decide) (fun c_3 => ?_) (fun c_3 => ?_)
      · -- taken
        refine lv_iconst (v := 0) hx hb dX0_isTwo_26 (by decide) ?_
        exact W.zret (v := (0 : Int32)) hx hb hr (nb_01 (Or.inl rfl)) (fun t ht hW => ⟨⟨(0 : Int32), (), rfl, by rw [fX0_isTwo, if_neg c_1, if_neg c_2, if_pos c_3], trivial⟩, hS.F ht⟩) hS.2.2 dX0_isTwo_27
      · -- not taken
        refine lv_iload_n hx hb dX0_isTwo_16 rfl (lv_at hl 0 rfl) ?_
        refine lv_bipush (v := 10) hx hb dX0_isTwo_17 (by decide) ?_
        refine lv_icmp_gt (tgt := 26) hx hb dX0_isTwo_19 (by decide) (fun c_4 => ?_) (fun c_4 => ?_)
        · -- taken
          refine lv_iconst (v := 0) hx hb dX0_isTwo_26 (by decide) ?_
          exact W.zret (v := (0 : Int32)) hx hb hr (nb_01 (Or.inl rfl)) (fun t ht hW => ⟨⟨(0 : Int32), (), rfl, by rw [fX0_isTwo, if_neg c_1, if_neg c_2, if_neg c_3, if_pos c_4], trivial⟩, hS.F ht⟩) hS.2.2 dX0_isTwo_27
        · -- not taken
          refine lv_iconst (v := 1) hx hb dX0_isTwo_22 (by decide) ?_
          refine lv_goto (tgt := 27) hx hb dX0_isTwo_23 (by decide) ?_
          exact W.zret (v := (1 : Int32)) hx hb hr (nb_01 (Or.inr rfl)) (fun t ht hW => ⟨⟨(1 : Int32), (), rfl, by rw [fX0_isTwo, if_neg c_1, if_neg c_2, if_neg c_3, if_neg c_4], trivial⟩, hS.F ht⟩) hS.2.2 dX0_isTwo_27
set_option maxHeartbeats 4000000 in
set_option maxRecDepth 100000 in
theorem mX0_isCondition (l : Launch) (sz : Nat) (p0 : Int32) : Met l yX0_isCondition wsX0_isCondition ({ frames := 0, cells := 0, slots := 0, locals := 0 }) (va_Pc [.int p0] (fun U => U.heap.size = sz)) (va_Qi (fun (r : Int32) (_ : Unit) => r = fX0_isCondition p0) (fun _ _ => True) (fun q : Nat => sz ≤ q)) 0 0 (fun q : Nat => sz ≤ q) := by
  refine Met.ofW (cc := cX0_isCondition) (maxL := 1) (ret := (some .boolean)) (by decide) rfl ?_
  intro p e s m args below meth c s₁ B hml hv
  obtain ⟨rfl, hsz⟩ := hv
  have hx := B.exec
  have hb := B.bytes
  have hr := B.returns
  have hts := atoms_spec (ws := wsX0_isCondition) B.pre
  have hown : s.vm.findClass RX0 = some m.cls := findClass_of_methodNamed B.named
  have hlocks := B.notSynchronized
  subst hsz
  have hS : va_S (fun q : Nat => s.heap.size ≤ q) s.heap s.heap [] := va_S.rf
  have hl := lv_entry ([.int p0]) (n := 1) (Nat.le_of_ble_eq_true rfl)
  rw [lg_entry_eq]
  generalize (lg_sl ([.int p0]) ++ List.replicate (1 - (lg_sl ([.int p0])).length) Slot.unset).toArray = ls at hl ⊢
  have hl : lv_has ls 1 [(0, .int p0)] := hl
  refine lv_iload_n hx hb dX0_isCondition_0 rfl (lv_at hl 0 rfl) ?_
  refine lv_bipush (v := 13) hx hb dX0_isCondition_1 (by decide) ?_
  refine lv_icmp_gt (tgt := 10) hx hb dX0_isCondition_3 (by decide) (fun c_1 => ?_) (fun c_1 => ?_)
  · -- taken
    refine lv_iconst (v := 0) hx hb dX0_isCondition_10 (by decide) ?_
    exact W.zret (v := (0 : Int32)) hx hb hr (nb_01 (Or.inl rfl)) (fun t ht hW => ⟨⟨(0 : Int32), (), rfl, by rw [fX0_isCondition, if_pos c_1], trivial⟩, hS.F ht⟩) hS.2.2 dX0_isCondition_11
  · -- not taken
    refine lv_iconst (v := 1) hx hb dX0_isCondition_6 (by decide) ?_
    refine lv_goto (tgt := 11) hx hb dX0_isCondition_7 (by decide) ?_
    exact W.zret (v := (1 : Int32)) hx hb hr (nb_01 (Or.inr rfl)) (fun t ht hW => ⟨⟨(1 : Int32), (), rfl, by rw [fX0_isCondition, if_neg c_1], trivial⟩, hS.F ht⟩) hS.2.2 dX0_isCondition_11
set_option maxHeartbeats 4000000 in
set_option maxRecDepth 100000 in
theorem mX0_isLoad (l : Launch) (sz : Nat) (p0 : Int32) (p1 : Int32) : Met l yX0_isLoad wsX0_isLoad ({ frames := 0, cells := 0, slots := 0, locals := 0 }) (va_Pc [.int p0, .int p1] (fun U => U.heap.size = sz)) (va_Qi (fun (r : Int32) (_ : Unit) => r = fX0_isLoad p0 p1) (fun _ _ => True) (fun q : Nat => sz ≤ q)) 0 0 (fun q : Nat => sz ≤ q) := by
  refine Met.ofW (cc := cX0_isLoad) (maxL := 2) (ret := (some .boolean)) (by decide) rfl ?_
  intro p e s m args below meth c s₁ B hml hv
  obtain ⟨rfl, hsz⟩ := hv
  have hx := B.exec
  have hb := B.bytes
  have hr := B.returns
  have hts := atoms_spec (ws := wsX0_isLoad) B.pre
  have hown : s.vm.findClass RX0 = some m.cls := findClass_of_methodNamed B.named
  have hlocks := B.notSynchronized
  subst hsz
  have hS : va_S (fun q : Nat => s.heap.size ≤ q) s.heap s.heap [] := va_S.rf
  have hl := lv_entry ([.int p0, .int p1]) (n := 2) (Nat.le_of_ble_eq_true rfl)
  rw [lg_entry_eq]
  generalize (lg_sl ([.int p0, .int p1]) ++ List.replicate (2 - (lg_sl ([.int p0, .int p1])).length) Slot.unset).toArray = ls at hl ⊢
  have hl : lv_has ls 2 [(0, .int p0), (1, .int p1)] := hl
  refine lv_iload_n hx hb dX0_isLoad_0 rfl (lv_at hl 1 rfl) ?_
  refine lv_iconst (v := 2) hx hb dX0_isLoad_1 (by decide) ?_
  refine lv_icmp_ne (tgt := 16) hx hb dX0_isLoad_2 (by decide) (fun c_1 => ?_) (fun c_1 => ?_)
  · -- taken
    refine lv_iload_n hx hb dX0_isLoad_16 rfl (lv_at hl 1 rfl) ?_
    refine lv_iconst (v := 3) hx hb dX0_isLoad_17 (by decide) ?_
    refine lv_icmp_eq (tgt := 30) hx hb dX0_isLoad_18 (by decide) (fun c_2 => ?_) (fun c_2 => ?_)
    · -- taken
      refine lv_iconst (v := 0) hx hb dX0_isLoad_30 (by decide) ?_
      exact W.zret (v := (0 : Int32)) hx hb hr (nb_01 (Or.inl rfl)) (fun t ht hW => ⟨⟨(0 : Int32), (), rfl, by rw [fX0_isLoad, if_neg c_1, if_pos c_2], trivial⟩, hS.F ht⟩) hS.2.2 dX0_isLoad_31
    · -- not taken
      refine lv_iload_n hx hb dX0_isLoad_21 rfl (lv_at hl 0 rfl) ?_
      refine lv_iconst (v := 1) hx hb dX0_isLoad_22 (by decide) ?_
      refine lv_icmp_eq (tgt := 30) hx hb dX0_isLoad_23 (by decide) (fun c_3 => ?_) (fun c_3 => ?_)
      · -- taken
        refine lv_iconst (v := 0) hx hb dX0_isLoad_30 (by decide) ?_
        exact W.zret (v := (0 : Int32)) hx hb hr (nb_01 (Or.inl rfl)) (fun t ht hW => ⟨⟨(0 : Int32), (), rfl, by rw [fX0_isLoad, if_neg c_1, if_neg c_2, if_pos c_3], trivial⟩, hS.F ht⟩) hS.2.2 dX0_isLoad_31
      · -- not taken
        refine lv_iconst (v := 1) hx hb dX0_isLoad_26 (by decide) ?_
        refine lv_goto (tgt := 31) hx hb dX0_isLoad_27 (by decide) ?_
        exact W.zret (v := (1 : Int32)) hx hb hr (nb_01 (Or.inr rfl)) (fun t ht hW => ⟨⟨(1 : Int32), (), rfl, by rw [fX0_isLoad, if_neg c_1, if_neg c_2, if_neg c_3], trivial⟩, hS.F ht⟩) hS.2.2 dX0_isLoad_31
  · -- not taken
    refine lv_iload_n hx hb dX0_isLoad_5 rfl (lv_at hl 0 rfl) ?_
    refine lv_iconst (v := 2) hx hb dX0_isLoad_6 (by decide) ?_
    refine lv_icmp_ne (tgt := 14) hx hb dX0_isLoad_7 (by decide) (fun c_4 => ?_) (fun c_4 => ?_)
    · -- taken
      refine lv_iconst (v := 0) hx hb dX0_isLoad_14 (by decide) ?_
      exact W.zret (v := (0 : Int32)) hx hb hr (nb_01 (Or.inl rfl)) (fun t ht hW => ⟨⟨(0 : Int32), (), rfl, by rw [fX0_isLoad, if_pos c_1, if_neg c_4], trivial⟩, hS.F ht⟩) hS.2.2 dX0_isLoad_15
    · -- not taken
      refine lv_iconst (v := 1) hx hb dX0_isLoad_10 (by decide) ?_
      refine lv_goto (tgt := 15) hx hb dX0_isLoad_11 (by decide) ?_
      exact W.zret (v := (1 : Int32)) hx hb hr (nb_01 (Or.inr rfl)) (fun t ht hW => ⟨⟨(1 : Int32), (), rfl, by rw [fX0_isLoad, if_pos c_1, if_pos c_4], trivial⟩, hS.F ht⟩) hS.2.2 dX0_isLoad_15
set_option maxHeartbeats 4000000 in
set_option maxRecDepth 100000 in
theorem mX0_isPair (l : Launch) (sz : Nat) (p0 : Int32) : Met l yX0_isPair wsX0_isPair ({ frames := 2, cells := 0, slots := 0, locals := 42 }) (va_Pc [.int p0] (fun U => U.heap.size = sz)) (va_Qi (fun (r : Int32) (_ : Unit) => r = fX0_isPair p0) (fun _ _ => True) (fun q : Nat => sz ≤ q)) 0 0 (fun q : Nat => sz ≤ q) := by
  refine Met.ofW (cc := cX0_isPair) (maxL := 7) (ret := (some .boolean)) (by decide) rfl ?_
  intro p e s m args below meth c s₁ B hml hv
  obtain ⟨rfl, hsz⟩ := hv
  have hx := B.exec
  have hb := B.bytes
  have hr := B.returns
  have hts := atoms_spec (ws := wsX0_isPair) B.pre
  have hown : s.vm.findClass RX0 = some m.cls := findClass_of_methodNamed B.named
  have hlocks := B.notSynchronized
  subst hsz
  have hS : va_S (fun q : Nat => s.heap.size ≤ q) s.heap s.heap [] := va_S.rf
  have hl := lv_entry ([.int p0]) (n := 7) (Nat.le_of_ble_eq_true rfl)
  rw [lg_entry_eq]
  generalize (lg_sl ([.int p0]) ++ List.replicate (7 - (lg_sl ([.int p0])).length) Slot.unset).toArray = ls at hl ⊢
  have hl : lv_has ls 7 [(0, .int p0)] := hl
  refine lv_iload_n hx hb dX0_isPair_0 rfl (lv_at hl 0 rfl) ?_
  refine lv_bipush (v := 23) hx hb dX0_isPair_1 (by decide) ?_
  refine lv_iconst (v := 2) hx hb dX0_isPair_3 (by decide) ?_
  refine va_calli (va_runS (As := [.int p0, .int (23 : Int32), .int (2 : Int32)]) (rest := []) ⟨hx, hb, hml, hown, hts⟩ (mX0_bits l s.heap.size p0 (23 : Int32) (2 : Int32)) (va_cwS 3 hts gX0_isPair_X0_bits rfl rfl rfl (by decide +kernel) ⟨Nat.le_of_ble_eq_true rfl, Nat.le_of_ble_eq_true rfl⟩) ⟨fb_pure, fun U hU hW => ⟨rfl, congrArg Array.size hU⟩⟩ rfl rfl hl.1 rfl (lv_room (Nat.le_of_ble_eq_true rfl)) dX0_isPair_4 ⟨Nat.zero_le _, Nat.zero_le _⟩) hS (fun q _ h => Nat.le_trans hS.1 h) (fun q h => Nat.le_trans hS.1 h) (fun r_1 _ _ H_1 _ _ _ hw _ _ _ hS => ?_)
  subst hw
  refine lv_istore_n (lv' := [(1, .int (fX0_bits p0 (23 : Int32) (2 : Int32))), (0, .int p0)]) hx hb dX0_isPair_7 rfl hl (by decide) rfl (fun ls hl => ?_)
  refine lv_iload_n hx hb dX0_isPair_8 rfl (lv_at hl 1 rfl) ?_
  refine lv_iconst (v := 0) hx hb dX0_isPair_9 (by decide) ?_
  refine lv_iconst (v := 5) hx hb dX0_isPair_10 (by decide) ?_
  refine va_calli (va_runS (As := [.int p0, .int (0 : Int32), .int (5 : Int32)]) (rest := []) ⟨hx, hb, hml, hown, hts⟩ (mX0_bits l H_1.size p0 (0 : Int32) (5 : Int32)) (va_cwS 3 hts gX0_isPair_X0_bits rfl rfl rfl (by decide +kernel) ⟨Nat.le_of_ble_eq_true rfl, Nat.le_of_ble_eq_true rfl⟩) ⟨fb_pure, fun U hU hW => ⟨rfl, congrArg Array.size hU⟩⟩ rfl rfl hl.1 rfl (lv_room (Nat.le_of_ble_eq_true rfl)) dX0_isPair_11 ⟨Nat.zero_le _, Nat.zero_le _⟩) hS (fun q _ h => Nat.le_trans hS.1 h) (fun q h => Nat.le_trans hS.1 h) (fun r_2 _ _ H_2 _ _ _ hw _ _ _ hS => ?_)
  subst hw
  refine lv_istore_n (lv' := [(2, .int (fX0_bits p0 (0 : Int32) (5 : Int32))), (1, .int (fX0_bits p0 (23 : Int32) (2 : Int32))), (0, .int p0)]) hx hb dX0_isPair_14 rfl hl (by decide) rfl (fun ls hl => ?_)
  refine lv_iload_n hx hb dX0_isPair_15 rfl (lv_at hl 2 rfl) ?_
  refine lv_iconst (v := 5) hx hb dX0_isPair_16 (by decide) ?_
  refine lv_iconst (v := 5) hx hb dX0_isPair_17 (by decide) ?_
  refine va_calli (va_runS (As := [.int p0, .int (5 : Int32), .int (5 : Int32)]) (rest := []) ⟨hx, hb, hml, hown, hts⟩ (mX0_bits l H_2.size p0 (5 : Int32) (5 : Int32)) (va_cwS 3 hts gX0_isPair_X0_bits rfl rfl rfl (by decide +kernel) ⟨Nat.le_of_ble_eq_true rfl, Nat.le_of_ble_eq_true rfl⟩) ⟨fb_pure, fun U hU hW => ⟨rfl, congrArg Array.size hU⟩⟩ rfl rfl hl.1 rfl (lv_room (Nat.le_of_ble_eq_true rfl)) dX0_isPair_18 ⟨Nat.zero_le _, Nat.zero_le _⟩) hS (fun q _ h => Nat.le_trans hS.1 h) (fun q h => Nat.le_trans hS.1 h) (fun r_3 _ _ H_3 _ _ _ hw _ _ _ hS => ?_)
  subst hw
  refine lv_istore_n (lv' := [(3, .int (fX0_bits p0 (5 : Int32) (5 : Int32))), (2, .int (fX0_bits p0 (0 : Int32) (5 : Int32))), (1, .int (fX0_bits p0 (23 : Int32) (2 : Int32))), (0, .int p0)]) hx hb dX0_isPair_21 rfl hl (by decide) rfl (fun ls hl => ?_)
  refine lv_iload_n hx hb dX0_isPair_22 rfl (lv_at hl 3 rfl) ?_
  refine lv_bipush (v := 10) hx hb dX0_isPair_23 (by decide) ?_
  refine lv_iconst (v := 5) hx hb dX0_isPair_25 (by decide) ?_
  refine va_calli (va_runS (As := [.int p0, .int (10 : Int32), .int (5 : Int32)]) (rest := []) ⟨hx, hb, hml, hown, hts⟩ (mX0_bits l H_3.size p0 (10 : Int32) (5 : Int32)) (va_cwS 3 hts gX0_isPair_X0_bits rfl rfl rfl (by decide +kernel) ⟨Nat.le_of_ble_eq_true rfl, Nat.le_of_ble_eq_true rfl⟩) ⟨fb_pure, fun U hU hW => ⟨rfl, congrArg Array.size hU⟩⟩ rfl rfl hl.1 rfl (lv_room (Nat.le_of_ble_eq_true rfl)) dX0_isPair_26 ⟨Nat.zero_le _, Nat.zero_le _⟩) hS (fun q _ h => Nat.le_trans hS.1 h) (fun q h => Nat.le_trans hS.1 h) (fun r_4 _ _ H_4 _ _ _ hw _ _ _ hS => ?_)
  subst hw
  refine lv_istore (lv' := [(4, .int (fX0_bits p0 (10 : Int32) (5 : Int32))), (3, .int (fX0_bits p0 (5 : Int32) (5 : Int32))), (2, .int (fX0_bits p0 (0 : Int32) (5 : Int32))), (1, .int (fX0_bits p0 (23 : Int32) (2 : Int32))), (0, .int p0)]) hx hb dX0_isPair_29 hl (by decide) rfl (fun ls hl => ?_)
  refine lv_iload_n hx hb dX0_isPair_31 rfl (lv_at hl 4 rfl) ?_
  refine lv_bipush (v := 22) hx hb dX0_isPair_32 (by decide) ?_
  refine lv_iconst (v := 1) hx hb dX0_isPair_34 (by decide) ?_
  refine va_calli (va_runS (As := [.int p0, .int (22 : Int32), .int (1 : Int32)]) (rest := []) ⟨hx, hb, hml, hown, hts⟩ (mX0_bits l H_4.size p0 (22 : Int32) (1 : Int32)) (va_cwS 3 hts gX0_isPair_X0_bits rfl rfl rfl (by decide +kernel) ⟨Nat.le_of_ble_eq_true rfl, Nat.le_of_ble_eq_true rfl⟩) ⟨fb_pure, fun U hU hW => ⟨rfl, congrArg Array.size hU⟩⟩ rfl rfl hl.1 rfl (lv_room (Nat.le_of_ble_eq_true rfl)) dX0_isPair_35 ⟨Nat.zero_le _, Nat.zero_le _⟩) hS (fun q _ h => Nat.le_trans hS.1 h) (fun q h => Nat.le_trans hS.1 h) (fun r_5 _ _ H_5 _ _ _ hw _ _ _ hS => ?_)
  subst hw
  refine lv_iconst (v := 1) hx hb dX0_isPair_38 (by decide) ?_
  refine lv_icmp_ne (tgt := 46) hx hb dX0_isPair_39 (by decide) (fun c_6 => ?_) (fun c_6 => ?_)
  · -- taken
    refine lv_iconst (v := 0) hx hb dX0_isPair_46 (by decide) ?_
    refine lv_istore (lv' := [(5, .int (0 : Int32)), (4, .int (fX0_bits p0 (10 : Int32) (5 : Int32))), (3, .int (fX0_bits p0 (5 : Int32) (5 : Int32))), (2, .int (fX0_bits p0 (0 : Int32) (5 : Int32))), (1, .int (fX0_bits p0 (23 : Int32) (2 : Int32))), (0, .int p0)]) hx hb dX0_isPair_47 hl (by decide) rfl (fun ls hl => ?_)
    refine lv_iload_n hx hb dX0_isPair_49 rfl (lv_at hl 4 rfl) ?_
    refine lv_if_eq (tgt := 64) hx hb dX0_isPair_50 (by decide) (fun c_7 => ?_) (fun c_7 => ?_)
    · -- taken
      refine lv_iconst (v := 0) hx hb dX0_isPair_64 (by decide) ?_
      exact W.zret (v := (0 : Int32)) hx hb hr (nb_01 (Or.inl rfl)) (fun t ht hW => ⟨⟨(0 : Int32), (), rfl, by rw [fX0_isPair, if_neg c_6, if_pos c_7], trivial⟩, hS.F ht⟩) hS.2.2 dX0_isPair_65
    · -- not taken
      refine lv_iload hx hb dX0_isPair_53 (lv_at hl 0 rfl) ?_
      refine lv_if_eq (tgt := 66) hx hb dX0_isPair_55 (by decide) (fun _ => ?_) (fun c => absurd c (by decide))
      refine lv_iload_n hx hb dX0_isPair_66 rfl (lv_at hl 4 rfl) ?_
      refine lv_iconst (v := 2) hx hb dX0_isPair_67 (by decide) ?_
      refine lv_icmp_eq (tgt := 75) hx hb dX0_isPair_68 (by decide) (fun c_8 => ?_) (fun c_8 => ?_)
      · -- taken
        refine lv_iconst (v := 0) hx hb dX0_isPair_75 (by decide) ?_
        refine lv_istore (lv' := [(6, .int (0 : Int32)), (5, .int (0 : Int32)), (4, .int (fX0_bits p0 (10 : Int32) (5 : Int32))), (3, .int (fX0_bits p0 (5 : Int32) (5 : Int32))), (2, .int (fX0_bits p0 (0 : Int32) (5 : Int32))), (1, .int (fX0_bits p0 (23 : Int32) (2 : Int32))), (0, .int p0)]) hx hb dX0_isPair_76 hl (by decide) rfl (fun ls hl => ?_)
        refine lv_iload hx hb dX0_isPair_78 (lv_at hl 0 rfl) ?_
        refine lv_if_eq (tgt := 100) hx hb dX0_isPair_80 (by decide) (fun _ => ?_) (fun c => absurd c (by decide))
        refine lv_iconst (v := 1) hx hb dX0_isPair_100 (by decide) ?_
        refine lv_goto (tgt := 105) hx hb dX0_isPair_101 (by decide) ?_
        exact W.zret (v := (1 : Int32)) hx hb hr (nb_01 (Or.inr rfl)) (fun t ht hW => ⟨⟨(1 : Int32), (), rfl, by rw [fX0_isPair, if_neg c_6, if_neg c_7, if_pos c_8], trivial⟩, hS.F ht⟩) hS.2.2 dX0_isPair_105
      · -- not taken
        refine lv_iconst (v := 1) hx hb dX0_isPair_71 (by decide) ?_
        refine lv_goto (tgt := 76) hx hb dX0_isPair_72 (by decide) ?_
        refine lv_istore (lv' := [(6, .int (1 : Int32)), (5, .int (0 : Int32)), (4, .int (fX0_bits p0 (10 : Int32) (5 : Int32))), (3, .int (fX0_bits p0 (5 : Int32) (5 : Int32))), (2, .int (fX0_bits p0 (0 : Int32) (5 : Int32))), (1, .int (fX0_bits p0 (23 : Int32) (2 : Int32))), (0, .int p0)]) hx hb dX0_isPair_76 hl (by decide) rfl (fun ls hl => ?_)
        refine lv_iload hx hb dX0_isPair_78 (lv_at hl 0 rfl) ?_
        refine lv_if_eq (tgt := 100) hx hb dX0_isPair_80 (by decide) (fun c => absurd c (by decide)) (fun _ => ?_)
        refine lv_iload_n hx hb dX0_isPair_83 rfl (lv_at hl 3 rfl) ?_
        refine lv_bipush (v := 31) hx hb dX0_isPair_84 (by decide) ?_
        refine lv_icmp_eq (tgt := 100) hx hb dX0_isPair_86 (by decide) (fun c_9 => ?_) (fun c_9 => ?_)
        · -- taken
          refine lv_iconst (v := 1) hx hb dX0_isPair_100 (by decide) ?_
          refine lv_goto (tgt := 105) hx hb dX0_isPair_101 (by decide) ?_
          exact W.zret (v := (1 : Int32)) hx hb hr (nb_01 (Or.inr rfl)) (fun t ht hW => ⟨⟨(1 : Int32), (), rfl, by rw [fX0_isPair, if_neg c_6, if_neg c_7, if_neg c_8, if_pos c_9], trivial⟩, hS.F ht⟩) hS.2.2 dX0_isPair_105
        · -- not taken
          refine lv_iload_n hx hb dX0_isPair_89 rfl (lv_at hl 3 rfl) ?_
          refine lv_iload_n hx hb dX0_isPair_90 rfl (lv_at hl 4 rfl) ?_
          refine lv_icmp_eq (tgt := 104) hx hb dX0_isPair_91 (by decide) (fun c_10 => ?_) (fun c_10 => ?_)
          · -- taken
            refine lv_iconst (v := 0) hx hb dX0_isPair_104 (by decide) ?_
            exact W.zret (v := (0 : Int32)) hx hb hr (nb_01 (Or.inl rfl)) (fun t ht hW => ⟨⟨(0 : Int32), (), rfl, by rw [fX0_isPair, if_neg c_6, if_neg c_7, if_neg c_8, if_neg c_9, if_pos c_10], trivial⟩, hS.F ht⟩) hS.2.2 dX0_isPair_105
          · -- not taken
            refine lv_iload_n hx hb dX0_isPair_94 rfl (lv_at hl 3 rfl) ?_
            refine lv_iload hx hb dX0_isPair_95 (lv_at hl 2 rfl) ?_
            refine lv_icmp_eq (tgt := 104) hx hb dX0_isPair_97 (by decide) (fun c_11 => ?_) (fun c_11 => ?_)
            · -- taken
              refine lv_iconst (v := 0) hx hb dX0_isPair_104 (by decide) ?_
              exact W.zret (v := (0 : Int32)) hx hb hr (nb_01 (Or.inl rfl)) (fun t ht hW => ⟨⟨(0 : Int32), (), rfl, by rw [fX0_isPair, if_neg c_6, if_neg c_7, if_neg c_8, if_neg c_9, if_neg c_10, if_pos c_11], trivial⟩, hS.F ht⟩) hS.2.2 dX0_isPair_105
            · -- not taken
              refine lv_iconst (v := 1) hx hb dX0_isPair_100 (by decide) ?_
              refine lv_goto (tgt := 105) hx hb dX0_isPair_101 (by decide) ?_
              exact W.zret (v := (1 : Int32)) hx hb hr (nb_01 (Or.inr rfl)) (fun t ht hW => ⟨⟨(1 : Int32), (), rfl, by rw [fX0_isPair, if_neg c_6, if_neg c_7, if_neg c_8, if_neg c_9, if_neg c_10, if_neg c_11], trivial⟩, hS.F ht⟩) hS.2.2 dX0_isPair_105
  · -- not taken
    refine lv_iconst (v := 1) hx hb dX0_isPair_42 (by decide) ?_
    refine lv_goto (tgt := 47) hx hb dX0_isPair_43 (by decide) ?_
    refine lv_istore (lv' := [(5, .int (1 : Int32)), (4, .int (fX0_bits p0 (10 : Int32) (5 : Int32))), (3, .int (fX0_bits p0 (5 : Int32) (5 : Int32))), (2, .int (fX0_bits p0 (0 : Int32) (5 : Int32))), (1, .int (fX0_bits p0 (23 : Int32) (2 : Int32))), (0, .int p0)]) hx hb dX0_isPair_47 hl (by decide) rfl (fun ls hl => ?_)
    refine lv_iload_n hx hb dX0_isPair_49 rfl (lv_at hl 4 rfl) ?_
    refine lv_if_eq (tgt := 64) hx hb dX0_isPair_50 (by decide) (fun c_12 => ?_) (fun c_12 => ?_)
    · -- taken
      refine lv_iconst (v := 0) hx hb dX0_isPair_64 (by decide) ?_
      exact W.zret (v := (0 : Int32)) hx hb hr (nb_01 (Or.inl rfl)) (fun t ht hW => ⟨⟨(0 : Int32), (), rfl, by rw [fX0_isPair, if_pos c_6, if_pos c_12], trivial⟩, hS.F ht⟩) hS.2.2 dX0_isPair_65
    · -- not taken
      refine lv_iload hx hb dX0_isPair_53 (lv_at hl 0 rfl) ?_
      refine lv_if_eq (tgt := 66) hx hb dX0_isPair_55 (by decide) (fun c => absurd c (by decide)) (fun _ => ?_)
      refine lv_iload_n hx hb dX0_isPair_58 rfl (lv_at hl 3 rfl) ?_
      refine lv_iload hx hb dX0_isPair_59 (lv_at hl 1 rfl) ?_
      refine lv_icmp_ne (tgt := 66) hx hb dX0_isPair_61 (by decide) (fun c_13 => ?_) (fun c_13 => ?_)
      · -- taken
        refine lv_iload_n hx hb dX0_isPair_66 rfl (lv_at hl 4 rfl) ?_
        refine lv_iconst (v := 2) hx hb dX0_isPair_67 (by decide) ?_
        refine lv_icmp_eq (tgt := 75) hx hb dX0_isPair_68 (by decide) (fun c_14 => ?_) (fun c_14 => ?_)
        · -- taken
          refine lv_iconst (v := 0) hx hb dX0_isPair_75 (by decide) ?_
          refine lv_istore (lv' := [(6, .int (0 : Int32)), (5, .int (1 : Int32)), (4, .int (fX0_bits p0 (10 : Int32) (5 : Int32))), (3, .int (fX0_bits p0 (5 : Int32) (5 : Int32))), (2, .int (fX0_bits p0 (0 : Int32) (5 : Int32))), (1, .int (fX0_bits p0 (23 : Int32) (2 : Int32))), (0, .int p0)]) hx hb dX0_isPair_76 hl (by decide) rfl (fun ls hl => ?_)
          refine lv_iload hx hb dX0_isPair_78 (lv_at hl 0 rfl) ?_
          refine lv_if_eq (tgt := 100) hx hb dX0_isPair_80 (by decide) (fun _ => ?_) (fun c => absurd c (by decide))
          refine lv_iconst (v := 1) hx hb dX0_isPair_100 (by decide) ?_
          refine lv_goto (tgt := 105) hx hb dX0_isPair_101 (by decide) ?_
          exact W.zret (v := (1 : Int32)) hx hb hr (nb_01 (Or.inr rfl)) (fun t ht hW => ⟨⟨(1 : Int32), (), rfl, by rw [fX0_isPair, if_pos c_6, if_neg c_12, if_neg c_13, if_pos c_14], trivial⟩, hS.F ht⟩) hS.2.2 dX0_isPair_105
        · -- not taken
          refine lv_iconst (v := 1) hx hb dX0_isPair_71 (by decide) ?_
          refine lv_goto (tgt := 76) hx hb dX0_isPair_72 (by decide) ?_
          refine lv_istore (lv' := [(6, .int (1 : Int32)), (5, .int (1 : Int32)), (4, .int (fX0_bits p0 (10 : Int32) (5 : Int32))), (3, .int (fX0_bits p0 (5 : Int32) (5 : Int32))), (2, .int (fX0_bits p0 (0 : Int32) (5 : Int32))), (1, .int (fX0_bits p0 (23 : Int32) (2 : Int32))), (0, .int p0)]) hx hb dX0_isPair_76 hl (by decide) rfl (fun ls hl => ?_)
          refine lv_iload hx hb dX0_isPair_78 (lv_at hl 0 rfl) ?_
          refine lv_if_eq (tgt := 100) hx hb dX0_isPair_80 (by decide) (fun c => absurd c (by decide)) (fun _ => ?_)
          refine lv_iload_n hx hb dX0_isPair_83 rfl (lv_at hl 3 rfl) ?_
          refine lv_bipush (v := 31) hx hb dX0_isPair_84 (by decide) ?_
          refine lv_icmp_eq (tgt := 100) hx hb dX0_isPair_86 (by decide) (fun c_15 => ?_) (fun c_15 => ?_)
          · -- taken
            refine lv_iconst (v := 1) hx hb dX0_isPair_100 (by decide) ?_
            refine lv_goto (tgt := 105) hx hb dX0_isPair_101 (by decide) ?_
            exact W.zret (v := (1 : Int32)) hx hb hr (nb_01 (Or.inr rfl)) (fun t ht hW => ⟨⟨(1 : Int32), (), rfl, by rw [fX0_isPair, if_pos c_6, if_neg c_12, if_neg c_13, if_neg c_14, if_pos c_15], trivial⟩, hS.F ht⟩) hS.2.2 dX0_isPair_105
          · -- not taken
            refine lv_iload_n hx hb dX0_isPair_89 rfl (lv_at hl 3 rfl) ?_
            refine lv_iload_n hx hb dX0_isPair_90 rfl (lv_at hl 4 rfl) ?_
            refine lv_icmp_eq (tgt := 104) hx hb dX0_isPair_91 (by decide) (fun c_16 => ?_) (fun c_16 => ?_)
            · -- taken
              refine lv_iconst (v := 0) hx hb dX0_isPair_104 (by decide) ?_
              exact W.zret (v := (0 : Int32)) hx hb hr (nb_01 (Or.inl rfl)) (fun t ht hW => ⟨⟨(0 : Int32), (), rfl, by rw [fX0_isPair, if_pos c_6, if_neg c_12, if_neg c_13, if_neg c_14, if_neg c_15, if_pos c_16], trivial⟩, hS.F ht⟩) hS.2.2 dX0_isPair_105
            · -- not taken
              refine lv_iload_n hx hb dX0_isPair_94 rfl (lv_at hl 3 rfl) ?_
              refine lv_iload hx hb dX0_isPair_95 (lv_at hl 2 rfl) ?_
              refine lv_icmp_eq (tgt := 104) hx hb dX0_isPair_97 (by decide) (fun c_17 => ?_) (fun c_17 => ?_)
              · -- taken
                refine lv_iconst (v := 0) hx hb dX0_isPair_104 (by decide) ?_
                exact W.zret (v := (0 : Int32)) hx hb hr (nb_01 (Or.inl rfl)) (fun t ht hW => ⟨⟨(0 : Int32), (), rfl, by rw [fX0_isPair, if_pos c_6, if_neg c_12, if_neg c_13, if_neg c_14, if_neg c_15, if_neg c_16, if_pos c_17], trivial⟩, hS.F ht⟩) hS.2.2 dX0_isPair_105
              · -- not taken
                refine lv_iconst (v := 1) hx hb dX0_isPair_100 (by decide) ?_
                refine lv_goto (tgt := 105) hx hb dX0_isPair_101 (by decide) ?_
                exact W.zret (v := (1 : Int32)) hx hb hr (nb_01 (Or.inr rfl)) (fun t ht hW => ⟨⟨(1 : Int32), (), rfl, by rw [fX0_isPair, if_pos c_6, if_neg c_12, if_neg c_13, if_neg c_14, if_neg c_15, if_neg c_16, if_neg c_17], trivial⟩, hS.F ht⟩) hS.2.2 dX0_isPair_105
      · -- not taken
        refine lv_iconst (v := 0) hx hb dX0_isPair_64 (by decide) ?_
        exact W.zret (v := (0 : Int32)) hx hb hr (nb_01 (Or.inl rfl)) (fun t ht hW => ⟨⟨(0 : Int32), (), rfl, by rw [fX0_isPair, if_pos c_6, if_neg c_12, if_pos c_13], trivial⟩, hS.F ht⟩) hS.2.2 dX0_isPair_65
set_option maxHeartbeats 4000000 in
set_option maxRecDepth 100000 in
theorem mX0_isAllowed (l : Launch) (sz : Nat) (p0 : Int32) (p1 : Int32) : Met l yX0_isAllowed wsX0_isAllowed ({ frames := 3, cells := 0, slots := 0, locals := 68 }) (va_Pc [.int p0, .int p1] (fun U => U.heap.size = sz)) (va_Qi (fun (r : Int32) (_ : Unit) => r = fX0_isAllowed p0 p1) (fun _ _ => True) (fun q : Nat => sz ≤ q)) 0 0 (fun q : Nat => sz ≤ q) := by
  refine Met.ofW (cc := cX0_isAllowed) (maxL := 2) (ret := (some .boolean)) (by decide) rfl ?_
  intro p e s m args below meth c s₁ B hml hv
  obtain ⟨rfl, hsz⟩ := hv
  have hx := B.exec
  have hb := B.bytes
  have hr := B.returns
  have hts := atoms_spec (ws := wsX0_isAllowed) B.pre
  have hown : s.vm.findClass RX0 = some m.cls := findClass_of_methodNamed B.named
  have hlocks := B.notSynchronized
  subst hsz
  have hS : va_S (fun q : Nat => s.heap.size ≤ q) s.heap s.heap [] := va_S.rf
  have hl := lv_entry ([.int p0, .int p1]) (n := 2) (Nat.le_of_ble_eq_true rfl)
  rw [lg_entry_eq]
  generalize (lg_sl ([.int p0, .int p1]) ++ List.replicate (2 - (lg_sl ([.int p0, .int p1])).length) Slot.unset).toArray = ls at hl ⊢
  have hl : lv_has ls 2 [(0, .int p0), (1, .int p1)] := hl
  refine lv_iload_n hx hb dX0_isAllowed_0 rfl (lv_at hl 0 rfl) ?_
  by_cases c_1 : p0 = (2 : Int32)
  · refine lv_tableIn (off := 67) (tgt := 68) hx hb dX0_isAllowed_1 (by rw [c_1]; decide) (by rw [c_1]; decide) (by rw [c_1]; decide) (by decide) ?_
    refine lv_iload_n hx hb dX0_isAllowed_68 rfl (lv_at hl 1 rfl) ?_
    refine lv_bipush (v := 22) hx hb dX0_isAllowed_69 (by decide) ?_
    refine lv_iconst (v := 2) hx hb dX0_isAllowed_71 (by decide) ?_
    refine va_calli (va_runS (As := [.int p1, .int (22 : Int32), .int (2 : Int32)]) (rest := []) ⟨hx, hb, hml, hown, hts⟩ (mX0_bits l s.heap.size p1 (22 : Int32) (2 : Int32)) (va_cwS 3 hts gX0_isAllowed_X0_bits rfl rfl rfl (by decide +kernel) ⟨Nat.le_of_ble_eq_true rfl, Nat.le_of_ble_eq_true rfl⟩) ⟨fb_pure, fun U hU hW => ⟨rfl, congrArg Array.size hU⟩⟩ rfl rfl hl.1 rfl (lv_room (Nat.le_of_ble_eq_true rfl)) dX0_isAllowed_72 ⟨Nat.zero_le _, Nat.zero_le _⟩) hS (fun q _ h => Nat.le_trans hS.1 h) (fun q h => Nat.le_trans hS.1 h) (fun r_2 _ _ H_2 _ _ _ hw _ _ _ hS => ?_)
    subst hw
    refine lv_iconst (v := 3) hx hb dX0_isAllowed_75 (by decide) ?_
    refine lv_icmp_eq (tgt := 90) hx hb dX0_isAllowed_76 (by decide) (fun c_3 => ?_) (fun c_3 => ?_)
    · -- taken
      refine lv_iconst (v := 0) hx hb dX0_isAllowed_90 (by decide) ?_
      exact W.zret (v := (0 : Int32)) hx hb hr (nb_01 (Or.inl rfl)) (fun t ht hW => ⟨⟨(0 : Int32), (), rfl, by rw [fX0_isAllowed, if_pos c_1, if_pos c_3], trivial⟩, hS.F ht⟩) hS.2.2 dX0_isAllowed_91
    · -- not taken
      refine lv_iload_n hx hb dX0_isAllowed_79 rfl (lv_at hl 1 rfl) ?_
      refine va_calli (va_runS (As := [.int p1]) (rest := []) ⟨hx, hb, hml, hown, hts⟩ (mX0_isMovedWithin l H_2.size p1) (va_cwS 1 hts gX0_isAllowed_X0_isMovedWithin rfl rfl rfl (by decide +kernel) ⟨Nat.le_of_ble_eq_true rfl, Nat.le_of_ble_eq_true rfl⟩) ⟨fb_pure, fun U hU hW => ⟨rfl, congrArg Array.size hU⟩⟩ rfl rfl hl.1 rfl (lv_room (Nat.le_of_ble_eq_true rfl)) dX0_isAllowed_80 ⟨Nat.zero_le _, Nat.zero_le _⟩) hS (fun q _ h => Nat.le_trans hS.1 h) (fun q h => Nat.le_trans hS.1 h) (fun r_4 _ _ H_4 _ _ _ hw _ _ _ hS => ?_)
      subst hw
      refine lv_if_eq (tgt := 90) hx hb dX0_isAllowed_83 (by decide) (fun c_5 => ?_) (fun c_5 => ?_)
      · -- taken
        refine lv_iconst (v := 0) hx hb dX0_isAllowed_90 (by decide) ?_
        exact W.zret (v := (0 : Int32)) hx hb hr (nb_01 (Or.inl rfl)) (fun t ht hW => ⟨⟨(0 : Int32), (), rfl, by rw [fX0_isAllowed, if_pos c_1, if_neg c_3, if_pos c_5], trivial⟩, hS.F ht⟩) hS.2.2 dX0_isAllowed_91
      · -- not taken
        refine lv_iconst (v := 1) hx hb dX0_isAllowed_86 (by decide) ?_
        refine lv_goto (tgt := 91) hx hb dX0_isAllowed_87 (by decide) ?_
        exact W.zret (v := (1 : Int32)) hx hb hr (nb_01 (Or.inr rfl)) (fun t ht hW => ⟨⟨(1 : Int32), (), rfl, by rw [fX0_isAllowed, if_pos c_1, if_neg c_3, if_neg c_5], trivial⟩, hS.F ht⟩) hS.2.2 dX0_isAllowed_91
  · -- another
    by_cases c_6 : p0 = (3 : Int32)
    · refine lv_tableIn (off := 91) (tgt := 92) hx hb dX0_isAllowed_1 (by rw [c_6]; decide) (by rw [c_6]; decide) (by rw [c_6]; decide) (by decide) ?_
      refine lv_iload_n hx hb dX0_isAllowed_92 rfl (lv_at hl 1 rfl) ?_
      refine va_calli (va_runS (As := [.int p1]) (rest := []) ⟨hx, hb, hml, hown, hts⟩ (mX0_isMovedWithin l s.heap.size p1) (va_cwS 1 hts gX0_isAllowed_X0_isMovedWithin rfl rfl rfl (by decide +kernel) ⟨Nat.le_of_ble_eq_true rfl, Nat.le_of_ble_eq_true rfl⟩) ⟨fb_pure, fun U hU hW => ⟨rfl, congrArg Array.size hU⟩⟩ rfl rfl hl.1 rfl (lv_room (Nat.le_of_ble_eq_true rfl)) dX0_isAllowed_93 ⟨Nat.zero_le _, Nat.zero_le _⟩) hS (fun q _ h => Nat.le_trans hS.1 h) (fun q h => Nat.le_trans hS.1 h) (fun r_7 _ _ H_7 _ _ _ hw _ _ _ hS => ?_)
      subst hw
      exact W.zret (v := (fX0_isMovedWithin p1)) hx hb hr (nb_01 (zX0_isMovedWithin ..)) (fun t ht hW => ⟨⟨(fX0_isMovedWithin p1), (), rfl, by rw [fX0_isAllowed, if_neg c_1, if_pos c_6], trivial⟩, hS.F ht⟩) hS.2.2 dX0_isAllowed_96
    · -- another
      by_cases c_8 : p0 = (4 : Int32)
      · refine lv_tableIn (off := 96) (tgt := 97) hx hb dX0_isAllowed_1 (by rw [c_8]; decide) (by rw [c_8]; decide) (by rw [c_8]; decide) (by decide) ?_
        refine lv_iload_n hx hb dX0_isAllowed_97 rfl (lv_at hl 1 rfl) ?_
        refine lv_bipush (v := 29) hx hb dX0_isAllowed_98 (by decide) ?_
        refine lv_iconst (v := 2) hx hb dX0_isAllowed_100 (by decide) ?_
        refine va_calli (va_runS (As := [.int p1, .int (29 : Int32), .int (2 : Int32)]) (rest := []) ⟨hx, hb, hml, hown, hts⟩ (mX0_bits l s.heap.size p1 (29 : Int32) (2 : Int32)) (va_cwS 3 hts gX0_isAllowed_X0_bits rfl rfl rfl (by decide +kernel) ⟨Nat.le_of_ble_eq_true rfl, Nat.le_of_ble_eq_true rfl⟩) ⟨fb_pure, fun U hU hW => ⟨rfl, congrArg Array.size hU⟩⟩ rfl rfl hl.1 rfl (lv_room (Nat.le_of_ble_eq_true rfl)) dX0_isAllowed_101 ⟨Nat.zero_le _, Nat.zero_le _⟩) hS (fun q _ h => Nat.le_trans hS.1 h) (fun q h => Nat.le_trans hS.1 h) (fun r_9 _ _ H_9 _ _ _ hw _ _ _ hS => ?_)
        subst hw
        refine lv_iconst (v := 1) hx hb dX0_isAllowed_104 (by decide) ?_
        refine lv_icmp_eq (tgt := 130) hx hb dX0_isAllowed_105 (by decide) (fun c_10 => ?_) (fun c_10 => ?_)
        · -- taken
          refine lv_iconst (v := 0) hx hb dX0_isAllowed_130 (by decide) ?_
          exact W.zret (v := (0 : Int32)) hx hb hr (nb_01 (Or.inl rfl)) (fun t ht hW => ⟨⟨(0 : Int32), (), rfl, by rw [fX0_isAllowed, if_neg c_1, if_neg c_6, if_pos c_8, if_pos c_10], trivial⟩, hS.F ht⟩) hS.2.2 dX0_isAllowed_131
        · -- not taken
          refine lv_iload_n hx hb dX0_isAllowed_108 rfl (lv_at hl 1 rfl) ?_
          refine va_calli (va_runS (As := [.int p1]) (rest := []) ⟨hx, hb, hml, hown, hts⟩ (mX0_isLong l H_9.size p1) (va_cwS 1 hts gX0_isAllowed_X0_isLong rfl rfl rfl (by decide +kernel) ⟨Nat.le_of_ble_eq_true rfl, Nat.le_of_ble_eq_true rfl⟩) ⟨fb_pure, fun U hU hW => ⟨rfl, congrArg Array.size hU⟩⟩ rfl rfl hl.1 rfl (lv_room (Nat.le_of_ble_eq_true rfl)) dX0_isAllowed_109 ⟨Nat.zero_le _, Nat.zero_le _⟩) hS (fun q _ h => Nat.le_trans hS.1 h) (fun q h => Nat.le_trans hS.1 h) (fun r_11 _ _ H_11 _ _ _ hw _ _ _ hS => ?_)
          subst hw
          refine lv_if_ne (tgt := 126) hx hb dX0_isAllowed_112 (by decide) (fun c_12 => ?_) (fun c_12 => ?_)
          · -- taken
            refine lv_iconst (v := 1) hx hb dX0_isAllowed_126 (by decide) ?_
            refine lv_goto (tgt := 131) hx hb dX0_isAllowed_127 (by decide) ?_
            exact W.zret (v := (1 : Int32)) hx hb hr (nb_01 (Or.inr rfl)) (fun t ht hW => ⟨⟨(1 : Int32), (), rfl, by rw [fX0_isAllowed, if_neg c_1, if_neg c_6, if_pos c_8, if_neg c_10, if_neg c_12], trivial⟩, hS.F ht⟩) hS.2.2 dX0_isAllowed_131
          · -- not taken
            refine lv_iload_n hx hb dX0_isAllowed_115 rfl (lv_at hl 1 rfl) ?_
            refine lv_bipush (v := 21) hx hb dX0_isAllowed_116 (by decide) ?_
            refine lv_iconst (v := 2) hx hb dX0_isAllowed_118 (by decide) ?_
            refine va_calli (va_runS (As := [.int p1, .int (21 : Int32), .int (2 : Int32)]) (rest := []) ⟨hx, hb, hml, hown, hts⟩ (mX0_bits l H_11.size p1 (21 : Int32) (2 : Int32)) (va_cwS 3 hts gX0_isAllowed_X0_bits rfl rfl rfl (by decide +kernel) ⟨Nat.le_of_ble_eq_true rfl, Nat.le_of_ble_eq_true rfl⟩) ⟨fb_pure, fun U hU hW => ⟨rfl, congrArg Array.size hU⟩⟩ rfl rfl hl.1 rfl (lv_room (Nat.le_of_ble_eq_true rfl)) dX0_isAllowed_119 ⟨Nat.zero_le _, Nat.zero_le _⟩) hS (fun q _ h => Nat.le_trans hS.1 h) (fun q h => Nat.le_trans hS.1 h) (fun r_13 _ _ H_13 _ _ _ hw _ _ _ hS => ?_)
            subst hw
            refine lv_iconst (v := 2) hx hb dX0_isAllowed_122 (by decide) ?_
            refine lv_icmp_ge (tgt := 130) hx hb dX0_isAllowed_123 (by decide) (fun c_14 => ?_) (fun c_14 => ?_)
            · -- taken
              refine lv_iconst (v := 0) hx hb dX0_isAllowed_130 (by decide) ?_
              exact W.zret (v := (0 : Int32)) hx hb hr (nb_01 (Or.inl rfl)) (fun t ht hW => ⟨⟨(0 : Int32), (), rfl, by rw [fX0_isAllowed, if_neg c_1, if_neg c_6, if_pos c_8, if_neg c_10, if_pos c_12, if_pos c_14], trivial⟩, hS.F ht⟩) hS.2.2 dX0_isAllowed_131
            · -- not taken
              refine lv_iconst (v := 1) hx hb dX0_isAllowed_126 (by decide) ?_
              refine lv_goto (tgt := 131) hx hb dX0_isAllowed_127 (by decide) ?_
              exact W.zret (v := (1 : Int32)) hx hb hr (nb_01 (Or.inr rfl)) (fun t ht hW => ⟨⟨(1 : Int32), (), rfl, by rw [fX0_isAllowed, if_neg c_1, if_neg c_6, if_pos c_8, if_neg c_10, if_pos c_12, if_neg c_14], trivial⟩, hS.F ht⟩) hS.2.2 dX0_isAllowed_131
      · -- another
        by_cases c_15 : p0 = (7 : Int32)
        · refine lv_tableIn (off := 131) (tgt := 132) hx hb dX0_isAllowed_1 (by rw [c_15]; decide) (by rw [c_15]; decide) (by rw [c_15]; decide) (by decide) ?_
          refine lv_iload_n hx hb dX0_isAllowed_132 rfl (lv_at hl 1 rfl) ?_
          refine lv_bipush (v := 10) hx hb dX0_isAllowed_133 (by decide) ?_
          refine lv_bipush (v := 6) hx hb dX0_isAllowed_135 (by decide) ?_
          refine va_calli (va_runS (As := [.int p1, .int (10 : Int32), .int (6 : Int32)]) (rest := []) ⟨hx, hb, hml, hown, hts⟩ (mX0_bits l s.heap.size p1 (10 : Int32) (6 : Int32)) (va_cwS 3 hts gX0_isAllowed_X0_bits rfl rfl rfl (by decide +kernel) ⟨Nat.le_of_ble_eq_true rfl, Nat.le_of_ble_eq_true rfl⟩) ⟨fb_pure, fun U hU hW => ⟨rfl, congrArg Array.size hU⟩⟩ rfl rfl hl.1 rfl (lv_room (Nat.le_of_ble_eq_true rfl)) dX0_isAllowed_137 ⟨Nat.zero_le _, Nat.zero_le _⟩) hS (fun q _ h => Nat.le_trans hS.1 h) (fun q h => Nat.le_trans hS.1 h) (fun r_16 _ _ H_16 _ _ _ hw _ _ _ hS => ?_)
          subst hw
          refine va_calli (va_runS (As := [.int (fX0_bits p1 (10 : Int32) (6 : Int32))]) (rest := []) ⟨hx, hb, hml, hown, hts⟩ (mX0_isTwo l H_16.size (fX0_bits p1 (10 : Int32) (6 : Int32))) (va_cwS 1 hts gX0_isAllowed_X0_isTwo rfl rfl rfl (by decide +kernel) ⟨Nat.le_of_ble_eq_true rfl, Nat.le_of_ble_eq_true rfl⟩) ⟨fb_pure, fun U hU hW => ⟨rfl, congrArg Array.size hU⟩⟩ rfl rfl hl.1 rfl (lv_room (Nat.le_of_ble_eq_true rfl)) dX0_isAllowed_140 ⟨Nat.zero_le _, Nat.zero_le _⟩) hS (fun q _ h => Nat.le_trans hS.1 h) (fun q h => Nat.le_trans hS.1 h) (fun r_17 _ _ H_17 _ _ _ hw _ _ _ hS => ?_)
          subst hw
          exact W.zret (v := (fX0_isTwo (fX0_bits p1 (10 : Int32) (6 : Int32)))) hx hb hr (nb_01 (zX0_isTwo ..)) (fun t ht hW => ⟨⟨(fX0_isTwo (fX0_bits p1 (10 : Int32) (6 : Int32))), (), rfl, by rw [fX0_isAllowed, if_neg c_1, if_neg c_6, if_neg c_8, if_pos c_15], trivial⟩, hS.F ht⟩) hS.2.2 dX0_isAllowed_143
        · -- another
          by_cases c_18 : p0 = (8 : Int32)
          · refine lv_tableIn (off := 143) (tgt := 144) hx hb dX0_isAllowed_1 (by rw [c_18]; decide) (by rw [c_18]; decide) (by rw [c_18]; decide) (by decide) ?_
            refine lv_iload_n hx hb dX0_isAllowed_144 rfl (lv_at hl 1 rfl) ?_
            refine lv_bipush (v := 12) hx hb dX0_isAllowed_145 (by decide) ?_
            refine lv_iconst (v := 4) hx hb dX0_isAllowed_147 (by decide) ?_
            refine va_calli (va_runS (As := [.int p1, .int (12 : Int32), .int (4 : Int32)]) (rest := []) ⟨hx, hb, hml, hown, hts⟩ (mX0_bits l s.heap.size p1 (12 : Int32) (4 : Int32)) (va_cwS 3 hts gX0_isAllowed_X0_bits rfl rfl rfl (by decide +kernel) ⟨Nat.le_of_ble_eq_true rfl, Nat.le_of_ble_eq_true rfl⟩) ⟨fb_pure, fun U hU hW => ⟨rfl, congrArg Array.size hU⟩⟩ rfl rfl hl.1 rfl (lv_room (Nat.le_of_ble_eq_true rfl)) dX0_isAllowed_148 ⟨Nat.zero_le _, Nat.zero_le _⟩) hS (fun q _ h => Nat.le_trans hS.1 h) (fun q h => Nat.le_trans hS.1 h) (fun r_19 _ _ H_19 _ _ _ hw _ _ _ hS => ?_)
            subst hw
            refine va_calli (va_runS (As := [.int (fX0_bits p1 (12 : Int32) (4 : Int32))]) (rest := []) ⟨hx, hb, hml, hown, hts⟩ (mX0_isCondition l H_19.size (fX0_bits p1 (12 : Int32) (4 : Int32))) (va_cwS 1 hts gX0_isAllowed_X0_isCondition rfl rfl rfl (by decide +kernel) ⟨Nat.le_of_ble_eq_true rfl, Nat.le_of_ble_eq_true rfl⟩) ⟨fb_pure, fun U hU hW => ⟨rfl, congrArg Array.size hU⟩⟩ rfl rfl hl.1 rfl (lv_room (Nat.le_of_ble_eq_true rfl)) dX0_isAllowed_151 ⟨Nat.zero_le _, Nat.zero_le _⟩) hS (fun q _ h => Nat.le_trans hS.1 h) (fun q h => Nat.le_trans hS.1 h) (fun r_20 _ _ H_20 _ _ _ hw _ _ _ hS => ?_)
            subst hw
            exact W.zret (v := (fX0_isCondition (fX0_bits p1 (12 : Int32) (4 : Int32)))) hx hb hr (nb_01 (zX0_isCondition ..)) (fun t ht hW => ⟨⟨(fX0_isCondition (fX0_bits p1 (12 : Int32) (4 : Int32))), (), rfl, by rw [fX0_isAllowed, if_neg c_1, if_neg c_6, if_neg c_8, if_neg c_15, if_pos c_18], trivial⟩, hS.F ht⟩) hS.2.2 dX0_isAllowed_154
          · -- another
            by_cases c_21 : p0 = (9 : Int32)
            · refine lv_tableIn (off := 154) (tgt := 155) hx hb dX0_isAllowed_1 (by rw [c_21]; decide) (by rw [c_21]; decide) (by rw [c_21]; decide) (by decide) ?_
              refine lv_iload_n hx hb dX0_isAllowed_155 rfl (lv_at hl 1 rfl) ?_
              refine lv_bipush (v := 30) hx hb dX0_isAllowed_156 (by decide) ?_
              refine lv_iconst (v := 2) hx hb dX0_isAllowed_158 (by decide) ?_
              refine va_calli (va_runS (As := [.int p1, .int (30 : Int32), .int (2 : Int32)]) (rest := []) ⟨hx, hb, hml, hown, hts⟩ (mX0_bits l s.heap.size p1 (30 : Int32) (2 : Int32)) (va_cwS 3 hts gX0_isAllowed_X0_bits rfl rfl rfl (by decide +kernel) ⟨Nat.le_of_ble_eq_true rfl, Nat.le_of_ble_eq_true rfl⟩) ⟨fb_pure, fun U hU hW => ⟨rfl, congrArg Array.size hU⟩⟩ rfl rfl hl.1 rfl (lv_room (Nat.le_of_ble_eq_true rfl)) dX0_isAllowed_159 ⟨Nat.zero_le _, Nat.zero_le _⟩) hS (fun q _ h => Nat.le_trans hS.1 h) (fun q h => Nat.le_trans hS.1 h) (fun r_22 _ _ H_22 _ _ _ hw _ _ _ hS => ?_)
              subst hw
              refine lv_iload_n hx hb dX0_isAllowed_162 rfl (lv_at hl 1 rfl) ?_
              refine lv_bipush (v := 22) hx hb dX0_isAllowed_163 (by decide) ?_
              refine lv_iconst (v := 2) hx hb dX0_isAllowed_165 (by decide) ?_
              refine va_calli (va_runS (As := [.int p1, .int (22 : Int32), .int (2 : Int32)]) (rest := [.int (fX0_bits p1 (30 : Int32) (2 : Int32))]) ⟨hx, hb, hml, hown, hts⟩ (mX0_bits l H_22.size p1 (22 : Int32) (2 : Int32)) (va_cwS 3 hts gX0_isAllowed_X0_bits rfl rfl rfl (by decide +kernel) ⟨Nat.le_of_ble_eq_true rfl, Nat.le_of_ble_eq_true rfl⟩) ⟨fb_pure, fun U hU hW => ⟨rfl, congrArg Array.size hU⟩⟩ rfl rfl hl.1 rfl (lv_room (Nat.le_of_ble_eq_true rfl)) dX0_isAllowed_166 ⟨Nat.zero_le _, Nat.zero_le _⟩) hS (fun q _ h => Nat.le_trans hS.1 h) (fun q h => Nat.le_trans hS.1 h) (fun r_23 _ _ H_23 _ _ _ hw _ _ _ hS => ?_)
              subst hw
              refine va_calli (va_runS (As := [.int (fX0_bits p1 (30 : Int32) (2 : Int32)), .int (fX0_bits p1 (22 : Int32) (2 : Int32))]) (rest := []) ⟨hx, hb, hml, hown, hts⟩ (mX0_isLoad l H_23.size (fX0_bits p1 (30 : Int32) (2 : Int32)) (fX0_bits p1 (22 : Int32) (2 : Int32))) (va_cwS 2 hts gX0_isAllowed_X0_isLoad rfl rfl rfl (by decide +kernel) ⟨Nat.le_of_ble_eq_true rfl, Nat.le_of_ble_eq_true rfl⟩) ⟨fb_pure, fun U hU hW => ⟨rfl, congrArg Array.size hU⟩⟩ rfl rfl hl.1 rfl (lv_room (Nat.le_of_ble_eq_true rfl)) dX0_isAllowed_169 ⟨Nat.zero_le _, Nat.zero_le _⟩) hS (fun q _ h => Nat.le_trans hS.1 h) (fun q h => Nat.le_trans hS.1 h) (fun r_24 _ _ H_24 _ _ _ hw _ _ _ hS => ?_)
              subst hw
              exact W.zret (v := (fX0_isLoad (fX0_bits p1 (30 : Int32) (2 : Int32)) (fX0_bits p1 (22 : Int32) (2 : Int32)))) hx hb hr (nb_01 (zX0_isLoad ..)) (fun t ht hW => ⟨⟨(fX0_isLoad (fX0_bits p1 (30 : Int32) (2 : Int32)) (fX0_bits p1 (22 : Int32) (2 : Int32))), (), rfl, by rw [fX0_isAllowed, if_neg c_1, if_neg c_6, if_neg c_8, if_neg c_15, if_neg c_18, if_pos c_21], trivial⟩, hS.F ht⟩) hS.2.2 dX0_isAllowed_172
            · -- another
              by_cases c_25 : p0 = (10 : Int32)
              · refine lv_tableIn (off := 154) (tgt := 155) hx hb dX0_isAllowed_1 (by rw [c_25]; decide) (by rw [c_25]; decide) (by rw [c_25]; decide) (by decide) ?_
                refine lv_iload_n hx hb dX0_isAllowed_155 rfl (lv_at hl 1 rfl) ?_
                refine lv_bipush (v := 30) hx hb dX0_isAllowed_156 (by decide) ?_
                refine lv_iconst (v := 2) hx hb dX0_isAllowed_158 (by decide) ?_
                refine va_calli (va_runS (As := [.int p1, .int (30 : Int32), .int (2 : Int32)]) (rest := []) ⟨hx, hb, hml, hown, hts⟩ (mX0_bits l s.heap.size p1 (30 : Int32) (2 : Int32)) (va_cwS 3 hts gX0_isAllowed_X0_bits rfl rfl rfl (by decide +kernel) ⟨Nat.le_of_ble_eq_true rfl, Nat.le_of_ble_eq_true rfl⟩) ⟨fb_pure, fun U hU hW => ⟨rfl, congrArg Array.size hU⟩⟩ rfl rfl hl.1 rfl (lv_room (Nat.le_of_ble_eq_true rfl)) dX0_isAllowed_159 ⟨Nat.zero_le _, Nat.zero_le _⟩) hS (fun q _ h => Nat.le_trans hS.1 h) (fun q h => Nat.le_trans hS.1 h) (fun r_26 _ _ H_26 _ _ _ hw _ _ _ hS => ?_)
                subst hw
                refine lv_iload_n hx hb dX0_isAllowed_162 rfl (lv_at hl 1 rfl) ?_
                refine lv_bipush (v := 22) hx hb dX0_isAllowed_163 (by decide) ?_
                refine lv_iconst (v := 2) hx hb dX0_isAllowed_165 (by decide) ?_
                refine va_calli (va_runS (As := [.int p1, .int (22 : Int32), .int (2 : Int32)]) (rest := [.int (fX0_bits p1 (30 : Int32) (2 : Int32))]) ⟨hx, hb, hml, hown, hts⟩ (mX0_bits l H_26.size p1 (22 : Int32) (2 : Int32)) (va_cwS 3 hts gX0_isAllowed_X0_bits rfl rfl rfl (by decide +kernel) ⟨Nat.le_of_ble_eq_true rfl, Nat.le_of_ble_eq_true rfl⟩) ⟨fb_pure, fun U hU hW => ⟨rfl, congrArg Array.size hU⟩⟩ rfl rfl hl.1 rfl (lv_room (Nat.le_of_ble_eq_true rfl)) dX0_isAllowed_166 ⟨Nat.zero_le _, Nat.zero_le _⟩) hS (fun q _ h => Nat.le_trans hS.1 h) (fun q h => Nat.le_trans hS.1 h) (fun r_27 _ _ H_27 _ _ _ hw _ _ _ hS => ?_)
                subst hw
                refine va_calli (va_runS (As := [.int (fX0_bits p1 (30 : Int32) (2 : Int32)), .int (fX0_bits p1 (22 : Int32) (2 : Int32))]) (rest := []) ⟨hx, hb, hml, hown, hts⟩ (mX0_isLoad l H_27.size (fX0_bits p1 (30 : Int32) (2 : Int32)) (fX0_bits p1 (22 : Int32) (2 : Int32))) (va_cwS 2 hts gX0_isAllowed_X0_isLoad rfl rfl rfl (by decide +kernel) ⟨Nat.le_of_ble_eq_true rfl, Nat.le_of_ble_eq_true rfl⟩) ⟨fb_pure, fun U hU hW => ⟨rfl, congrArg Array.size hU⟩⟩ rfl rfl hl.1 rfl (lv_room (Nat.le_of_ble_eq_true rfl)) dX0_isAllowed_169 ⟨Nat.zero_le _, Nat.zero_le _⟩) hS (fun q _ h => Nat.le_trans hS.1 h) (fun q h => Nat.le_trans hS.1 h) (fun r_28 _ _ H_28 _ _ _ hw _ _ _ hS => ?_)
                subst hw
                exact W.zret (v := (fX0_isLoad (fX0_bits p1 (30 : Int32) (2 : Int32)) (fX0_bits p1 (22 : Int32) (2 : Int32)))) hx hb hr (nb_01 (zX0_isLoad ..)) (fun t ht hW => ⟨⟨(fX0_isLoad (fX0_bits p1 (30 : Int32) (2 : Int32)) (fX0_bits p1 (22 : Int32) (2 : Int32))), (), rfl, by rw [fX0_isAllowed, if_neg c_1, if_neg c_6, if_neg c_8, if_neg c_15, if_neg c_18, if_neg c_21, if_pos c_25], trivial⟩, hS.F ht⟩) hS.2.2 dX0_isAllowed_172
              · -- another
                by_cases c_29 : p0 = (11 : Int32)
                · refine lv_tableIn (off := 172) (tgt := 173) hx hb dX0_isAllowed_1 (by rw [c_29]; decide) (by rw [c_29]; decide) (by rw [c_29]; decide) (by decide) ?_
                  refine lv_iload_n hx hb dX0_isAllowed_173 rfl (lv_at hl 1 rfl) ?_
                  refine va_calli (va_runS (As := [.int p1]) (rest := []) ⟨hx, hb, hml, hown, hts⟩ (mX0_isPair l s.heap.size p1) (va_cwS 1 hts gX0_isAllowed_X0_isPair rfl rfl rfl (by decide +kernel) ⟨Nat.le_of_ble_eq_true rfl, Nat.le_of_ble_eq_true rfl⟩) ⟨fb_pure, fun U hU hW => ⟨rfl, congrArg Array.size hU⟩⟩ rfl rfl hl.1 rfl (lv_room (Nat.le_of_ble_eq_true rfl)) dX0_isAllowed_174 ⟨Nat.zero_le _, Nat.zero_le _⟩) hS (fun q _ h => Nat.le_trans hS.1 h) (fun q h => Nat.le_trans hS.1 h) (fun r_30 _ _ H_30 _ _ _ hw _ _ _ hS => ?_)
                  subst hw
                  exact W.zret (v := (fX0_isPair p1)) hx hb hr (nb_01 (zX0_isPair ..)) (fun t ht hW => ⟨⟨(fX0_isPair p1), (), rfl, by rw [fX0_isAllowed, if_neg c_1, if_neg c_6, if_neg c_8, if_neg c_15, if_neg c_18, if_neg c_21, if_neg c_25, if_pos c_29], trivial⟩, hS.F ht⟩) hS.2.2 dX0_isAllowed_177
                · -- another
                  by_cases c_31 : p0 = (14 : Int32)
                  · refine lv_tableIn (off := 177) (tgt := 178) hx hb dX0_isAllowed_1 (by rw [c_31]; decide) (by rw [c_31]; decide) (by rw [c_31]; decide) (by decide) ?_
                    refine lv_iload_n hx hb dX0_isAllowed_178 rfl (lv_at hl 1 rfl) ?_
                    refine lv_iconst (v := 0) hx hb dX0_isAllowed_179 (by decide) ?_
                    refine lv_iconst (v := 4) hx hb dX0_isAllowed_180 (by decide) ?_
                    refine va_calli (va_runS (As := [.int p1, .int (0 : Int32), .int (4 : Int32)]) (rest := []) ⟨hx, hb, hml, hown, hts⟩ (mX0_bits l s.heap.size p1 (0 : Int32) (4 : Int32)) (va_cwS 3 hts gX0_isAllowed_X0_bits rfl rfl rfl (by decide +kernel) ⟨Nat.le_of_ble_eq_true rfl, Nat.le_of_ble_eq_true rfl⟩) ⟨fb_pure, fun U hU hW => ⟨rfl, congrArg Array.size hU⟩⟩ rfl rfl hl.1 rfl (lv_room (Nat.le_of_ble_eq_true rfl)) dX0_isAllowed_181 ⟨Nat.zero_le _, Nat.zero_le _⟩) hS (fun q _ h => Nat.le_trans hS.1 h) (fun q h => Nat.le_trans hS.1 h) (fun r_32 _ _ H_32 _ _ _ hw _ _ _ hS => ?_)
                    subst hw
                    refine va_calli (va_runS (As := [.int (fX0_bits p1 (0 : Int32) (4 : Int32))]) (rest := []) ⟨hx, hb, hml, hown, hts⟩ (mX0_isCondition l H_32.size (fX0_bits p1 (0 : Int32) (4 : Int32))) (va_cwS 1 hts gX0_isAllowed_X0_isCondition rfl rfl rfl (by decide +kernel) ⟨Nat.le_of_ble_eq_true rfl, Nat.le_of_ble_eq_true rfl⟩) ⟨fb_pure, fun U hU hW => ⟨rfl, congrArg Array.size hU⟩⟩ rfl rfl hl.1 rfl (lv_room (Nat.le_of_ble_eq_true rfl)) dX0_isAllowed_184 ⟨Nat.zero_le _, Nat.zero_le _⟩) hS (fun q _ h => Nat.le_trans hS.1 h) (fun q h => Nat.le_trans hS.1 h) (fun r_33 _ _ H_33 _ _ _ hw _ _ _ hS => ?_)
                    subst hw
                    exact W.zret (v := (fX0_isCondition (fX0_bits p1 (0 : Int32) (4 : Int32)))) hx hb hr (nb_01 (zX0_isCondition ..)) (fun t ht hW => ⟨⟨(fX0_isCondition (fX0_bits p1 (0 : Int32) (4 : Int32))), (), rfl, by rw [fX0_isAllowed, if_neg c_1, if_neg c_6, if_neg c_8, if_neg c_15, if_neg c_18, if_neg c_21, if_neg c_25, if_neg c_29, if_pos c_31], trivial⟩, hS.F ht⟩) hS.2.2 dX0_isAllowed_187
                  · -- another
                    refine sw_def (tgt := 188) hx hb dX0_isAllowed_1 (by decide) (fun k hk => by
                        have e_0 := lv_neT c_1 (a := 2) (by decide); have e_1 := lv_neT c_6 (a := 3) (by decide); have e_2 := lv_neT c_8 (a := 4) (by decide); have e_3 := lv_neT c_15 (a := 7) (by decide); have e_4 := lv_neT c_18 (a := 8) (by decide); have e_5 := lv_neT c_21 (a := 9) (by decide); have e_6 := lv_neT c_25 (a := 10) (by decide); have e_7 := lv_neT c_29 (a := 11) (by decide); have e_8 := lv_neT c_31 (a := 14) (by decide)
                        rcases (show k = 0 ∨ k = 1 ∨ k = 2 ∨ k = 3 ∨ k = 4 ∨ k = 5 ∨ k = 6 ∨ k = 7 ∨ k = 8 ∨ k = 9 ∨ k = 10 ∨ k = 11 ∨ k = 12 from by have hk9 : k < 13 := hk; omega) with rfl | rfl | rfl | rfl | rfl | rfl | rfl | rfl | rfl | rfl | rfl | rfl | rfl <;> first | exact Or.inl rfl | exact Or.inr (by omega)) (by decide) ?_
                    refine lv_iconst (v := 1) hx hb dX0_isAllowed_188 (by decide) ?_
                    exact W.zret (v := (1 : Int32)) hx hb hr (nb_01 (Or.inr rfl)) (fun t ht hW => ⟨⟨(1 : Int32), (), rfl, by rw [fX0_isAllowed, if_neg c_1, if_neg c_6, if_neg c_8, if_neg c_15, if_neg c_18, if_neg c_21, if_neg c_25, if_neg c_29, if_neg c_31], trivial⟩, hS.F ht⟩) hS.2.2 dX0_isAllowed_189
set_option maxHeartbeats 4000000 in
set_option maxRecDepth 100000 in
theorem mX0_kind (l : Launch) (sz : Nat) (h0 t0 : Nat) (p0 : Int32) : Met l yX0_kind wsX0_kind ({ frames := 4, cells := 0, slots := 0, locals := 89 }) (va_Pc [.ref h0, .int p0] (fun U => U.heap.size = sz ∧ wv_rcv RX0 h0 U ∧ wv_tt t0 U)) (va_Qi (fun (r : Int32) (_ : Unit) => r = fX0_kind p0) (fun _ _ => True) (fun q : Nat => sz ≤ q)) 0 0 (fun q : Nat => sz ≤ q) := by
  refine Met.ofW (cc := cX0_kind) (maxL := 3) (ret := (some .int)) (by decide) rfl ?_
  intro p e s m args below meth c s₁ B hml hv
  obtain ⟨rfl, hsz, hww⟩ := hv
  have hx := B.exec
  have hb := B.bytes
  have hr := B.returns
  have hts := atoms_spec (ws := wsX0_kind) B.pre
  have hown : s.vm.findClass RX0 = some m.cls := findClass_of_methodNamed B.named
  have hlocks := B.notSynchronized
  subst hsz
  have hS : va_S (fun q : Nat => s.heap.size ≤ q) s.heap s.heap [] := va_S.rf
  have hl := lv_entry ([.ref h0, .int p0]) (n := 3) (Nat.le_of_ble_eq_true rfl)
  rw [lg_entry_eq]
  generalize (lg_sl ([.ref h0, .int p0]) ++ List.replicate (3 - (lg_sl ([.ref h0, .int p0])).length) Slot.unset).toArray = ls at hl ⊢
  have hl : lv_has ls 3 [(0, .ref h0), (1, .int p0)] := hl
  refine lv_iload_n hx hb dX0_kind_0 rfl (lv_at hl 1 rfl) ?_
  refine va_calli (va_runS (As := [.int p0]) (rest := []) ⟨hx, hb, hml, hown, hts⟩ (mX0_formOf l s.heap.size t0 p0) (va_cwS 1 hts gX0_kind_X0_formOf rfl rfl rfl (by decide +kernel) ⟨Nat.le_of_ble_eq_true rfl, Nat.le_of_ble_eq_true rfl⟩) ⟨fb_tt, fun U hU hW => ⟨rfl, congrArg Array.size hU, hww.2.go hS hU hW.alike⟩⟩ rfl rfl hl.1 rfl (lv_room (Nat.le_of_ble_eq_true rfl)) dX0_kind_1 ⟨Nat.zero_le _, Nat.zero_le _⟩) hS (fun q _ h => Nat.le_trans hS.1 h) (fun q h => Nat.le_trans hS.1 h) (fun r_1 _ _ H_1 _ _ _ hw _ _ _ hS => ?_)
  subst hw
  refine lv_istore_n (lv' := [(2, .int (fX0_formOf p0)), (0, .ref h0), (1, .int p0)]) hx hb dX0_kind_4 rfl hl (by decide) rfl (fun ls hl => ?_)
  refine lv_iload_n hx hb dX0_kind_5 rfl (lv_at hl 0 rfl) ?_
  refine lv_iload_n hx hb dX0_kind_6 rfl (lv_at hl 2 rfl) ?_
  refine va_calli (va_runS (As := [.int (fX0_formOf p0), .int p0]) (rest := []) ⟨hx, hb, hml, hown, hts⟩ (mX0_isAllowed l H_1.size (fX0_formOf p0) p0) (va_cwS 2 hts gX0_kind_X0_isAllowed rfl rfl rfl (by decide +kernel) ⟨Nat.le_of_ble_eq_true rfl, Nat.le_of_ble_eq_true rfl⟩) ⟨fb_pure, fun U hU hW => ⟨rfl, congrArg Array.size hU⟩⟩ rfl rfl hl.1 rfl (lv_room (Nat.le_of_ble_eq_true rfl)) dX0_kind_7 ⟨Nat.zero_le _, Nat.zero_le _⟩) hS (fun q _ h => Nat.le_trans hS.1 h) (fun q h => Nat.le_trans hS.1 h) (fun r_2 _ _ H_2 _ _ _ hw _ _ _ hS => ?_)
  subst hw
  refine lv_if_eq (tgt := 17) hx hb dX0_kind_10 (by decide) (fun c_3 => ?_) (fun c_3 => ?_)
  · -- taken
    refine lv_iconst (v := 0) hx hb dX0_kind_17 (by decide) ?_
    exact W.iret (v := (0 : Int32)) hx hb hr (fun t ht hW => ⟨⟨(0 : Int32), (), rfl, by rw [fX0_kind, if_pos c_3], trivial⟩, hS.F ht⟩) hS.2.2 dX0_kind_18
  · -- not taken
    refine lv_iload_n hx hb dX0_kind_13 rfl (lv_at hl 0 rfl) ?_
    refine lv_goto (tgt := 18) hx hb dX0_kind_14 (by decide) ?_
    exact W.iret (v := (fX0_formOf p0)) hx hb hr (fun t ht hW => ⟨⟨(fX0_formOf p0), (), rfl, by rw [fX0_kind, if_neg c_3], trivial⟩, hS.F ht⟩) hS.2.2 dX0_kind_18
end
section
set_option maxHeartbeats 4000000 in
set_option maxRecDepth 100000 in
theorem mX0_isGoing (l : Launch) (sz : Nat) (p0 : Int32) : Met l yX0_isGoing wsX0_isGoing ({ frames := 0, cells := 0, slots := 0, locals := 0 }) (va_Pc [.int p0] (fun U => U.heap.size = sz)) (va_Qi (fun (r : Int32) (_ : Unit) => r = fX0_isGoing p0) (fun _ _ => True) (fun q : Nat => sz ≤ q)) 0 0 (fun q : Nat => sz ≤ q) := by
  refine Met.ofW (cc := cX0_isGoing) (maxL := 1) (ret := (some .boolean)) (by decide) rfl ?_
  intro p e s m args below meth c s₁ B hml hv
  obtain ⟨rfl, hsz⟩ := hv
  have hx := B.exec
  have hb := B.bytes
  have hr := B.returns
  have hts := atoms_spec (ws := wsX0_isGoing) B.pre
  have hown : s.vm.findClass RX0 = some m.cls := findClass_of_methodNamed B.named
  have hlocks := B.notSynchronized
  subst hsz
  have hS : va_S (fun q : Nat => s.heap.size ≤ q) s.heap s.heap [] := va_S.rf
  have hl := lv_entry ([.int p0]) (n := 1) (Nat.le_of_ble_eq_true rfl)
  rw [lg_entry_eq]
  generalize (lg_sl ([.int p0]) ++ List.replicate (1 - (lg_sl ([.int p0])).length) Slot.unset).toArray = ls at hl ⊢
  have hl : lv_has ls 1 [(0, .int p0)] := hl
  refine lv_iload_n hx hb dX0_isGoing_0 rfl (lv_at hl 0 rfl) ?_
  refine lv_bipush (v := 12) hx hb dX0_isGoing_1 (by decide) ?_
  refine lv_icmp_lt (tgt := 16) hx hb dX0_isGoing_3 (by decide) (fun c_1 => ?_) (fun c_1 => ?_)
  · -- taken
    refine lv_iconst (v := 0) hx hb dX0_isGoing_16 (by decide) ?_
    exact W.zret (v := (0 : Int32)) hx hb hr (nb_01 (Or.inl rfl)) (fun t ht hW => ⟨⟨(0 : Int32), (), rfl, by rw [fX0_isGoing, if_pos c_1], trivial⟩, hS.F ht⟩) hS.2.2 dX0_isGoing_17
  · -- not taken
    refine lv_iload_n hx hb dX0_isGoing_6 rfl (lv_at hl 0 rfl) ?_
    refine lv_bipush (v := 16) hx hb dX0_isGoing_7 (by decide) ?_
    refine lv_icmp_gt (tgt := 16) hx hb dX0_isGoing_9 (by decide) (fun c_2 => ?_) (fun c_2 => ?_)
    · -- taken
      refine lv_iconst (v := 0) hx hb dX0_isGoing_16 (by decide) ?_
      exact W.zret (v := (0 : Int32)) hx hb hr (nb_01 (Or.inl rfl)) (fun t ht hW => ⟨⟨(0 : Int32), (), rfl, by rw [fX0_isGoing, if_neg c_1, if_pos c_2], trivial⟩, hS.F ht⟩) hS.2.2 dX0_isGoing_17
    · -- not taken
      refine lv_iconst (v := 1) hx hb dX0_isGoing_12 (by decide) ?_
      refine lv_goto (tgt := 17) hx hb dX0_isGoing_13 (by decide) ?_
      exact W.zret (v := (1 : Int32)) hx hb hr (nb_01 (Or.inr rfl)) (fun t ht hW => ⟨⟨(1 : Int32), (), rfl, by rw [fX0_isGoing, if_neg c_1, if_neg c_2], trivial⟩, hS.F ht⟩) hS.2.2 dX0_isGoing_17
set_option maxHeartbeats 4000000 in
set_option maxRecDepth 100000 in
theorem mX0_distancePlace (l : Launch) (sz : Nat) (p0 : Int32) : Met l yX0_distancePlace wsX0_distancePlace ({ frames := 0, cells := 0, slots := 0, locals := 0 }) (va_Pc [.int p0] (fun U => U.heap.size = sz)) (va_Qi (fun (r : Int32) (_ : Unit) => r = fX0_distancePlace p0) (fun _ _ => True) (fun q : Nat => sz ≤ q)) 0 0 (fun q : Nat => sz ≤ q) := by
  refine Met.ofW (cc := cX0_distancePlace) (maxL := 1) (ret := (some .int)) (by decide) rfl ?_
  intro p e s m args below meth c s₁ B hml hv
  obtain ⟨rfl, hsz⟩ := hv
  have hx := B.exec
  have hb := B.bytes
  have hr := B.returns
  have hts := atoms_spec (ws := wsX0_distancePlace) B.pre
  have hown : s.vm.findClass RX0 = some m.cls := findClass_of_methodNamed B.named
  have hlocks := B.notSynchronized
  subst hsz
  have hS : va_S (fun q : Nat => s.heap.size ≤ q) s.heap s.heap [] := va_S.rf
  have hl := lv_entry ([.int p0]) (n := 1) (Nat.le_of_ble_eq_true rfl)
  rw [lg_entry_eq]
  generalize (lg_sl ([.int p0]) ++ List.replicate (1 - (lg_sl ([.int p0])).length) Slot.unset).toArray = ls at hl ⊢
  have hl : lv_has ls 1 [(0, .int p0)] := hl
  refine lv_iload_n hx hb dX0_distancePlace_0 rfl (lv_at hl 0 rfl) ?_
  refine lv_bipush (v := 12) hx hb dX0_distancePlace_1 (by decide) ?_
  refine lv_icmp_eq (tgt := 12) hx hb dX0_distancePlace_3 (by decide) (fun c_1 => ?_) (fun c_1 => ?_)
  · -- taken
    refine lv_iconst (v := 0) hx hb dX0_distancePlace_12 (by decide) ?_
    refine lv_goto (tgt := 17) hx hb dX0_distancePlace_13 (by decide) ?_
    exact W.iret (v := (0 : Int32)) hx hb hr (fun t ht hW => ⟨⟨(0 : Int32), (), rfl, by rw [fX0_distancePlace, if_pos c_1], trivial⟩, hS.F ht⟩) hS.2.2 dX0_distancePlace_17
  · -- not taken
    refine lv_iload_n hx hb dX0_distancePlace_6 rfl (lv_at hl 0 rfl) ?_
    refine lv_bipush (v := 13) hx hb dX0_distancePlace_7 (by decide) ?_
    refine lv_icmp_ne (tgt := 16) hx hb dX0_distancePlace_9 (by decide) (fun c_2 => ?_) (fun c_2 => ?_)
    · -- taken
      refine lv_iconst (v := 5) hx hb dX0_distancePlace_16 (by decide) ?_
      exact W.iret (v := (5 : Int32)) hx hb hr (fun t ht hW => ⟨⟨(5 : Int32), (), rfl, by rw [fX0_distancePlace, if_neg c_1, if_neg c_2], trivial⟩, hS.F ht⟩) hS.2.2 dX0_distancePlace_17
    · -- not taken
      refine lv_iconst (v := 0) hx hb dX0_distancePlace_12 (by decide) ?_
      refine lv_goto (tgt := 17) hx hb dX0_distancePlace_13 (by decide) ?_
      exact W.iret (v := (0 : Int32)) hx hb hr (fun t ht hW => ⟨⟨(0 : Int32), (), rfl, by rw [fX0_distancePlace, if_neg c_1, if_pos c_2], trivial⟩, hS.F ht⟩) hS.2.2 dX0_distancePlace_17
set_option maxHeartbeats 4000000 in
set_option maxRecDepth 100000 in
theorem mX0_distanceWidth (l : Launch) (sz : Nat) (p0 : Int32) : Met l yX0_distanceWidth wsX0_distanceWidth ({ frames := 0, cells := 0, slots := 0, locals := 0 }) (va_Pc [.int p0] (fun U => U.heap.size = sz)) (va_Qi (fun (r : Int32) (_ : Unit) => r = fX0_distanceWidth p0) (fun _ _ => True) (fun q : Nat => sz ≤ q)) 0 0 (fun q : Nat => sz ≤ q) := by
  refine Met.ofW (cc := cX0_distanceWidth) (maxL := 1) (ret := (some .int)) (by decide) rfl ?_
  intro p e s m args below meth c s₁ B hml hv
  obtain ⟨rfl, hsz⟩ := hv
  have hx := B.exec
  have hb := B.bytes
  have hr := B.returns
  have hts := atoms_spec (ws := wsX0_distanceWidth) B.pre
  have hown : s.vm.findClass RX0 = some m.cls := findClass_of_methodNamed B.named
  have hlocks := B.notSynchronized
  subst hsz
  have hS : va_S (fun q : Nat => s.heap.size ≤ q) s.heap s.heap [] := va_S.rf
  have hl := lv_entry ([.int p0]) (n := 1) (Nat.le_of_ble_eq_true rfl)
  rw [lg_entry_eq]
  generalize (lg_sl ([.int p0]) ++ List.replicate (1 - (lg_sl ([.int p0])).length) Slot.unset).toArray = ls at hl ⊢
  have hl : lv_has ls 1 [(0, .int p0)] := hl
  refine lv_iload_n hx hb dX0_distanceWidth_0 rfl (lv_at hl 0 rfl) ?_
  refine lv_bipush (v := 12) hx hb dX0_distanceWidth_1 (by decide) ?_
  refine lv_icmp_eq (tgt := 12) hx hb dX0_distanceWidth_3 (by decide) (fun c_1 => ?_) (fun c_1 => ?_)
  · -- taken
    refine lv_bipush (v := 26) hx hb dX0_distanceWidth_12 (by decide) ?_
    exact W.iret (v := (26 : Int32)) hx hb hr (fun t ht hW => ⟨⟨(26 : Int32), (), rfl, by rw [fX0_distanceWidth, if_pos c_1], trivial⟩, hS.F ht⟩) hS.2.2 dX0_distanceWidth_14
  · -- not taken
    refine lv_iload_n hx hb dX0_distanceWidth_6 rfl (lv_at hl 0 rfl) ?_
    refine lv_bipush (v := 13) hx hb dX0_distanceWidth_7 (by decide) ?_
    refine lv_icmp_ne (tgt := 15) hx hb dX0_distanceWidth_9 (by decide) (fun c_2 => ?_) (fun c_2 => ?_)
    · -- taken
      refine lv_iload_n hx hb dX0_distanceWidth_15 rfl (lv_at hl 0 rfl) ?_
      refine lv_bipush (v := 16) hx hb dX0_distanceWidth_16 (by decide) ?_
      refine lv_icmp_ne (tgt := 26) hx hb dX0_distanceWidth_18 (by decide) (fun c_3 => ?_) (fun c_3 => ?_)
      · -- taken
        refine lv_bipush (v := 19) hx hb dX0_distanceWidth_26 (by decide) ?_
        exact W.iret (v := (19 : Int32)) hx hb hr (fun t ht hW => ⟨⟨(19 : Int32), (), rfl, by rw [fX0_distanceWidth, if_neg c_1, if_neg c_2, if_neg c_3], trivial⟩, hS.F ht⟩) hS.2.2 dX0_distanceWidth_28
      · -- not taken
        refine lv_bipush (v := 14) hx hb dX0_distanceWidth_21 (by decide) ?_
        refine lv_goto (tgt := 28) hx hb dX0_distanceWidth_23 (by decide) ?_
        exact W.iret (v := (14 : Int32)) hx hb hr (fun t ht hW => ⟨⟨(14 : Int32), (), rfl, by rw [fX0_distanceWidth, if_neg c_1, if_neg c_2, if_pos c_3], trivial⟩, hS.F ht⟩) hS.2.2 dX0_distanceWidth_28
    · -- not taken
      refine lv_bipush (v := 26) hx hb dX0_distanceWidth_12 (by decide) ?_
      exact W.iret (v := (26 : Int32)) hx hb hr (fun t ht hW => ⟨⟨(26 : Int32), (), rfl, by rw [fX0_distanceWidth, if_neg c_1, if_pos c_2], trivial⟩, hS.F ht⟩) hS.2.2 dX0_distanceWidth_14
set_option maxHeartbeats 4000000 in
set_option maxRecDepth 100000 in
theorem mX0_signedBits (l : Launch) (sz : Nat) (p0 : Int32) (p1 : Int32) (p2 : Int32) : Met l yX0_signedBits wsX0_signedBits ({ frames := 0, cells := 0, slots := 0, locals := 0 }) (va_Pc [.int p0, .int p1, .int p2] (fun U => U.heap.size = sz)) (va_Qi (fun (r : Int32) (_ : Unit) => r = fX0_signedBits p0 p1 p2) (fun _ _ => True) (fun q : Nat => sz ≤ q)) 0 0 (fun q : Nat => sz ≤ q) := by
  refine Met.ofW (cc := cX0_signedBits) (maxL := 3) (ret := (some .int)) (by decide) rfl ?_
  intro p e s m args below meth c s₁ B hml hv
  obtain ⟨rfl, hsz⟩ := hv
  have hx := B.exec
  have hb := B.bytes
  have hr := B.returns
  have hts := atoms_spec (ws := wsX0_signedBits) B.pre
  have hown : s.vm.findClass RX0 = some m.cls := findClass_of_methodNamed B.named
  have hlocks := B.notSynchronized
  subst hsz
  have hS : va_S (fun q : Nat => s.heap.size ≤ q) s.heap s.heap [] := va_S.rf
  have hl := lv_entry ([.int p0, .int p1, .int p2]) (n := 3) (Nat.le_of_ble_eq_true rfl)
  rw [lg_entry_eq]
  generalize (lg_sl ([.int p0, .int p1, .int p2]) ++ List.replicate (3 - (lg_sl ([.int p0, .int p1, .int p2])).length) Slot.unset).toArray = ls at hl ⊢
  have hl : lv_has ls 3 [(0, .int p0), (1, .int p1), (2, .int p2)] := hl
  refine lv_iload_n hx hb dX0_signedBits_0 rfl (lv_at hl 0 rfl) ?_
  refine lv_bipush (v := 32) hx hb dX0_signedBits_1 (by decide) ?_
  refine lv_iload_n hx hb dX0_signedBits_3 rfl (lv_at hl 1 rfl) ?_
  refine lv_isub hx hb dX0_signedBits_4 ?_
  refine lv_iload_n hx hb dX0_signedBits_5 rfl (lv_at hl 2 rfl) ?_
  refine lv_isub hx hb dX0_signedBits_6 ?_
  refine lv_ishl hx hb dX0_signedBits_7 ?_
  refine lv_bipush (v := 32) hx hb dX0_signedBits_8 (by decide) ?_
  refine lv_iload_n hx hb dX0_signedBits_10 rfl (lv_at hl 2 rfl) ?_
  refine lv_isub hx hb dX0_signedBits_11 ?_
  refine lv_ishr hx hb dX0_signedBits_12 ?_
  exact W.iret (v := ((p0 <<< ((((32 : Int32) - p1) - p2) &&& 31)) >>> (((32 : Int32) - p2) &&& 31))) hx hb hr (fun t ht hW => ⟨⟨((p0 <<< ((((32 : Int32) - p1) - p2) &&& 31)) >>> (((32 : Int32) - p2) &&& 31)), (), rfl, by rw [fX0_signedBits], trivial⟩, hS.F ht⟩) hS.2.2 dX0_signedBits_13
set_option maxHeartbeats 4000000 in
set_option maxRecDepth 100000 in
theorem mX0_by (l : Launch) (sz : Nat) (h0 t0 : Nat) (p0 : Int32) : Met l yX0_by wsX0_by ({ frames := 5, cells := 0, slots := 0, locals := 111 }) (va_Pc [.ref h0, .int p0] (fun U => U.heap.size = sz ∧ wv_rcv RX0 h0 U ∧ wv_tt t0 U)) (va_Qi (fun (r : Int32) (_ : Unit) => r = fX0_by p0) (fun _ _ => True) (fun q : Nat => sz ≤ q)) 0 0 (fun q : Nat => sz ≤ q) := by
  refine Met.ofW (cc := cX0_by) (maxL := 3) (ret := (some .int)) (by decide) rfl ?_
  intro p e s m args below meth c s₁ B hml hv
  obtain ⟨rfl, hsz, hww⟩ := hv
  have hx := B.exec
  have hb := B.bytes
  have hr := B.returns
  have hts := atoms_spec (ws := wsX0_by) B.pre
  have hown : s.vm.findClass RX0 = some m.cls := findClass_of_methodNamed B.named
  have hlocks := B.notSynchronized
  subst hsz
  have hS : va_S (fun q : Nat => s.heap.size ≤ q) s.heap s.heap [] := va_S.rf
  have hl := lv_entry ([.ref h0, .int p0]) (n := 3) (Nat.le_of_ble_eq_true rfl)
  rw [lg_entry_eq]
  generalize (lg_sl ([.ref h0, .int p0]) ++ List.replicate (3 - (lg_sl ([.ref h0, .int p0])).length) Slot.unset).toArray = ls at hl ⊢
  have hl : lv_has ls 3 [(0, .ref h0), (1, .int p0)] := hl
  refine lv_aload_n hx hb dX0_by_0 rfl (lv_at hl 0 rfl) ?_
  refine lv_iload_n hx hb dX0_by_1 rfl (lv_at hl 1 rfl) ?_
  refine va_calli (va_runV (As := [.int p0]) (rest := []) ⟨hx, hb, hml, hown, hts⟩ (mX0_kind l s.heap.size h0 t0 p0) (cwV 1 hts gX0_by_X0_kind rfl rfl rfl (by decide +kernel) ⟨Nat.le_of_ble_eq_true rfl, Nat.le_of_ble_eq_true rfl⟩) ⟨fb_ww, hww.1.at hS, fun U hU hW => ⟨rfl, congrArg Array.size hU, hww.1.go hS hU hW.alike, hww.2.go hS hU hW.alike⟩⟩ rfl rfl hl.1 rfl (lv_room (Nat.le_of_ble_eq_true rfl)) dX0_by_2 ⟨Nat.zero_le _, Nat.zero_le _⟩) hS (fun q _ h => Nat.le_trans hS.1 h) (fun q h => Nat.le_trans hS.1 h) (fun r_1 _ _ H_1 _ _ _ hw _ _ _ hS => ?_)
  subst hw
  refine lv_istore_n (lv' := [(2, .int (fX0_kind p0)), (0, .ref h0), (1, .int p0)]) hx hb dX0_by_5 rfl hl (by decide) rfl (fun ls hl => ?_)
  refine lv_iload_n hx hb dX0_by_6 rfl (lv_at hl 0 rfl) ?_
  refine va_calli (va_runS (As := [.int (fX0_kind p0)]) (rest := []) ⟨hx, hb, hml, hown, hts⟩ (mX0_isGoing l H_1.size (fX0_kind p0)) (va_cwS 1 hts gX0_by_X0_isGoing rfl rfl rfl (by decide +kernel) ⟨Nat.le_of_ble_eq_true rfl, Nat.le_of_ble_eq_true rfl⟩) ⟨fb_pure, fun U hU hW => ⟨rfl, congrArg Array.size hU⟩⟩ rfl rfl hl.1 rfl (lv_room (Nat.le_of_ble_eq_true rfl)) dX0_by_7 ⟨Nat.zero_le _, Nat.zero_le _⟩) hS (fun q _ h => Nat.le_trans hS.1 h) (fun q h => Nat.le_trans hS.1 h) (fun r_2 _ _ H_2 _ _ _ hw _ _ _ hS => ?_)
  subst hw
  refine lv_if_ne (tgt := 15) hx hb dX0_by_10 (by decide) (fun c_3 => ?_) (fun c_3 => ?_)
  · -- taken
    refine lv_iload_n hx hb dX0_by_15 rfl (lv_at hl 2 rfl) ?_
    refine lv_iload_n hx hb dX0_by_16 rfl (lv_at hl 0 rfl) ?_
    refine va_calli (va_runS (As := [.int (fX0_kind p0)]) (rest := [.int p0]) ⟨hx, hb, hml, hown, hts⟩ (mX0_distancePlace l H_2.size (fX0_kind p0)) (va_cwS 1 hts gX0_by_X0_distancePlace rfl rfl rfl (by decide +kernel) ⟨Nat.le_of_ble_eq_true rfl, Nat.le_of_ble_eq_true rfl⟩) ⟨fb_pure, fun U hU hW => ⟨rfl, congrArg Array.size hU⟩⟩ rfl rfl hl.1 rfl (lv_room (Nat.le_of_ble_eq_true rfl)) dX0_by_17 ⟨Nat.zero_le _, Nat.zero_le _⟩) hS (fun q _ h => Nat.le_trans hS.1 h) (fun q h => Nat.le_trans hS.1 h) (fun r_4 _ _ H_4 _ _ _ hw _ _ _ hS => ?_)
    subst hw
    refine lv_iload_n hx hb dX0_by_20 rfl (lv_at hl 0 rfl) ?_
    refine va_calli (va_runS (As := [.int (fX0_kind p0)]) (rest := [.int (fX0_distancePlace (fX0_kind p0)), .int p0]) ⟨hx, hb, hml, hown, hts⟩ (mX0_distanceWidth l H_4.size (fX0_kind p0)) (va_cwS 1 hts gX0_by_X0_distanceWidth rfl rfl rfl (by decide +kernel) ⟨Nat.le_of_ble_eq_true rfl, Nat.le_of_ble_eq_true rfl⟩) ⟨fb_pure, fun U hU hW => ⟨rfl, congrArg Array.size hU⟩⟩ rfl rfl hl.1 rfl (lv_room (Nat.le_of_ble_eq_true rfl)) dX0_by_21 ⟨Nat.zero_le _, Nat.zero_le _⟩) hS (fun q _ h => Nat.le_trans hS.1 h) (fun q h => Nat.le_trans hS.1 h) (fun r_5 _ _ H_5 _ _ _ hw _ _ _ hS => ?_)
    subst hw
    refine va_calli (va_runS (As := [.int p0, .int (fX0_distancePlace (fX0_kind p0)), .int (fX0_distanceWidth (fX0_kind p0))]) (rest := []) ⟨hx, hb, hml, hown, hts⟩ (mX0_signedBits l H_5.size p0 (fX0_distancePlace (fX0_kind p0)) (fX0_distanceWidth (fX0_kind p0))) (va_cwS 3 hts gX0_by_X0_signedBits rfl rfl rfl (by decide +kernel) ⟨Nat.le_of_ble_eq_true rfl, Nat.le_of_ble_eq_true rfl⟩) ⟨fb_pure, fun U hU hW => ⟨rfl, congrArg Array.size hU⟩⟩ rfl rfl hl.1 rfl (lv_room (Nat.le_of_ble_eq_true rfl)) dX0_by_24 ⟨Nat.zero_le _, Nat.zero_le _⟩) hS (fun q _ h => Nat.le_trans hS.1 h) (fun q h => Nat.le_trans hS.1 h) (fun r_6 _ _ H_6 _ _ _ hw _ _ _ hS => ?_)
    subst hw
    refine lv_iconst (v := 4) hx hb dX0_by_27 (by decide) ?_
    refine lv_imul hx hb dX0_by_28 ?_
    exact W.iret (v := ((fX0_signedBits p0 (fX0_distancePlace (fX0_kind p0)) (fX0_distanceWidth (fX0_kind p0))) * (4 : Int32))) hx hb hr (fun t ht hW => ⟨⟨((fX0_signedBits p0 (fX0_distancePlace (fX0_kind p0)) (fX0_distanceWidth (fX0_kind p0))) * (4 : Int32)), (), rfl, by rw [fX0_by, if_neg c_3], trivial⟩, hS.F ht⟩) hS.2.2 dX0_by_29
  · -- not taken
    refine lv_iconst (v := 1) hx hb dX0_by_13 (by decide) ?_
    exact W.iret (v := (1 : Int32)) hx hb hr (fun t ht hW => ⟨⟨(1 : Int32), (), rfl, by rw [fX0_by, if_pos c_3], trivial⟩, hS.F ht⟩) hS.2.2 dX0_by_14
set_option maxHeartbeats 4000000 in
set_option maxRecDepth 100000 in
theorem mX0_isWithinReach (l : Launch) (sz : Nat) (p0 : Int32) (p1 : Int64) : Met l yX0_isWithinReach wsX0_isWithinReach ({ frames := 1, cells := 0, slots := 0, locals := 20 }) (va_Pc [.int p0, .long p1] (fun U => U.heap.size = sz)) (va_Qi (fun (r : Int32) (_ : Unit) => r = fX0_isWithinReach p0 p1) (fun _ _ => True) (fun q : Nat => sz ≤ q)) 0 0 (fun q : Nat => sz ≤ q) := by
  refine Met.ofW (cc := cX0_isWithinReach) (maxL := 5) (ret := (some .boolean)) (by decide) rfl ?_
  intro p e s m args below meth c s₁ B hml hv
  obtain ⟨rfl, hsz⟩ := hv
  have hx := B.exec
  have hb := B.bytes
  have hr := B.returns
  have hts := atoms_spec (ws := wsX0_isWithinReach) B.pre
  have hown : s.vm.findClass RX0 = some m.cls := findClass_of_methodNamed B.named
  have hlocks := B.notSynchronized
  subst hsz
  have hS : va_S (fun q : Nat => s.heap.size ≤ q) s.heap s.heap [] := va_S.rf
  have hl := lv_entry ([.int p0, .long p1]) (n := 5) (Nat.le_of_ble_eq_true rfl)
  rw [lg_entry_eq]
  generalize (lg_sl ([.int p0, .long p1]) ++ List.replicate (5 - (lg_sl ([.int p0, .long p1])).length) Slot.unset).toArray = ls at hl ⊢
  have hl : lv_has ls 5 [(0, .int p0), (1, .long p1)] := hl
  refine lv_iload_n hx hb dX0_isWithinReach_0 rfl (lv_at hl 0 rfl) ?_
  refine va_calli (va_runS (As := [.int p0]) (rest := []) ⟨hx, hb, hml, hown, hts⟩ (mX0_isGoing l s.heap.size p0) (va_cwS 1 hts gX0_isWithinReach_X0_isGoing rfl rfl rfl (by decide +kernel) ⟨Nat.le_of_ble_eq_true rfl, Nat.le_of_ble_eq_true rfl⟩) ⟨fb_pure, fun U hU hW => ⟨rfl, congrArg Array.size hU⟩⟩ rfl rfl hl.1 rfl (lv_room (Nat.le_of_ble_eq_true rfl)) dX0_isWithinReach_1 ⟨Nat.zero_le _, Nat.zero_le _⟩) hS (fun q _ h => Nat.le_trans hS.1 h) (fun q h => Nat.le_trans hS.1 h) (fun r_1 _ _ H_1 _ _ _ hw _ _ _ hS => ?_)
  subst hw
  refine lv_if_eq (tgt := 17) hx hb dX0_isWithinReach_4 (by decide) (fun c_2 => ?_) (fun c_2 => ?_)
  · -- taken
    refine lv_iconst (v := 0) hx hb dX0_isWithinReach_17 (by decide) ?_
    exact W.zret (v := (0 : Int32)) hx hb hr (nb_01 (Or.inl rfl)) (fun t ht hW => ⟨⟨(0 : Int32), (), rfl, by rw [fX0_isWithinReach, if_pos c_2], trivial⟩, hS.F ht⟩) hS.2.2 dX0_isWithinReach_18
  · -- not taken
    refine lv_lload_n hx hb dX0_isWithinReach_7 rfl (lv_at hl 1 rfl) ?_
    refine lv_ldc2 hx hb hown (hts (.constantLong RX0 88 (3)) (by decide +kernel)) dX0_isWithinReach_8 ?_
    refine lv_land hx hb dX0_isWithinReach_11 ?_
    refine lv_lconst (v := 0) hx hb dX0_isWithinReach_12 (by decide) ?_
    refine W.lcmp hx hb dX0_isWithinReach_13 ?_
    refine lv_if_eq (tgt := 19) hx hb dX0_isWithinReach_14 (by decide) (fun c_3 => ?_) (fun c_3 => ?_)
    · -- taken
      refine lv_lconst (v := 1) hx hb dX0_isWithinReach_19 (by decide) ?_
      refine lv_iload_n hx hb dX0_isWithinReach_20 rfl (lv_at hl 0 rfl) ?_
      refine va_calli (va_runS (As := [.int p0]) (rest := [.long (1 : Int64)]) ⟨hx, hb, hml, hown, hts⟩ (mX0_distanceWidth l H_1.size p0) (va_cwS 1 hts gX0_isWithinReach_X0_distanceWidth rfl rfl rfl (by decide +kernel) ⟨Nat.le_of_ble_eq_true rfl, Nat.le_of_ble_eq_true rfl⟩) ⟨fb_pure, fun U hU hW => ⟨rfl, congrArg Array.size hU⟩⟩ rfl rfl hl.1 rfl (lv_room (Nat.le_of_ble_eq_true rfl)) dX0_isWithinReach_21 ⟨Nat.zero_le _, Nat.zero_le _⟩) hS (fun q _ h => Nat.le_trans hS.1 h) (fun q h => Nat.le_trans hS.1 h) (fun r_4 _ _ H_4 _ _ _ hw _ _ _ hS => ?_)
      subst hw
      refine lv_iconst (v := 1) hx hb dX0_isWithinReach_24 (by decide) ?_
      refine lv_iadd hx hb dX0_isWithinReach_25 ?_
      refine lv_lshl hx hb dX0_isWithinReach_26 rfl ?_
      refine lv_lstore_n (lv' := [(3, .long ((1 : Int64) <<< ((((fX0_distanceWidth p0) + (1 : Int32))).toInt64 &&& 63))), (0, .int p0), (1, .long p1)]) hx hb dX0_isWithinReach_27 rfl hl (by decide) rfl (fun ls hl => ?_)
      refine lv_lload_n hx hb dX0_isWithinReach_28 rfl (lv_at hl 2 rfl) ?_
      refine lv_lload_n hx hb dX0_isWithinReach_29 rfl (lv_at hl 0 rfl) ?_
      refine lv_lneg hx hb dX0_isWithinReach_30 ?_
      refine W.lcmp hx hb dX0_isWithinReach_31 ?_
      refine lv_if_lt (tgt := 45) hx hb dX0_isWithinReach_32 (by decide) (fun c_5 => ?_) (fun c_5 => ?_)
      · -- taken
        refine lv_iconst (v := 0) hx hb dX0_isWithinReach_45 (by decide) ?_
        exact W.zret (v := (0 : Int32)) hx hb hr (nb_01 (Or.inl rfl)) (fun t ht hW => ⟨⟨(0 : Int32), (), rfl, by rw [fX0_isWithinReach, if_neg c_2, if_pos c_3, if_pos c_5], trivial⟩, hS.F ht⟩) hS.2.2 dX0_isWithinReach_46
      · -- not taken
        refine lv_lload_n hx hb dX0_isWithinReach_35 rfl (lv_at hl 2 rfl) ?_
        refine lv_lload_n hx hb dX0_isWithinReach_36 rfl (lv_at hl 0 rfl) ?_
        refine W.lcmp hx hb dX0_isWithinReach_37 ?_
        refine lv_if_ge (tgt := 45) hx hb dX0_isWithinReach_38 (by decide) (fun c_6 => ?_) (fun c_6 => ?_)
        · -- taken
          refine lv_iconst (v := 0) hx hb dX0_isWithinReach_45 (by decide) ?_
          exact W.zret (v := (0 : Int32)) hx hb hr (nb_01 (Or.inl rfl)) (fun t ht hW => ⟨⟨(0 : Int32), (), rfl, by rw [fX0_isWithinReach, if_neg c_2, if_pos c_3, if_neg c_5, if_pos c_6], trivial⟩, hS.F ht⟩) hS.2.2 dX0_isWithinReach_46
        · -- not taken
          refine lv_iconst (v := 1) hx hb dX0_isWithinReach_41 (by decide) ?_
          refine lv_goto (tgt := 46) hx hb dX0_isWithinReach_42 (by decide) ?_
          exact W.zret (v := (1 : Int32)) hx hb hr (nb_01 (Or.inr rfl)) (fun t ht hW => ⟨⟨(1 : Int32), (), rfl, by rw [fX0_isWithinReach, if_neg c_2, if_pos c_3, if_neg c_5, if_neg c_6], trivial⟩, hS.F ht⟩) hS.2.2 dX0_isWithinReach_46
    · -- not taken
      refine lv_iconst (v := 0) hx hb dX0_isWithinReach_17 (by decide) ?_
      exact W.zret (v := (0 : Int32)) hx hb hr (nb_01 (Or.inl rfl)) (fun t ht hW => ⟨⟨(0 : Int32), (), rfl, by rw [fX0_isWithinReach, if_neg c_2, if_neg c_3], trivial⟩, hS.F ht⟩) hS.2.2 dX0_isWithinReach_18
set_option maxHeartbeats 4000000 in
set_option maxRecDepth 100000 in
theorem mX0_going (l : Launch) (sz : Nat) (h0 t0 : Nat) (p0 : Int32) (p1 : Int32) : Met l yX0_going wsX0_going ({ frames := 5, cells := 0, slots := 0, locals := 111 }) (va_Pc [.ref h0, .int p0, .int p1] (fun U => U.heap.size = sz ∧ wv_rcv RX0 h0 U ∧ wv_tt t0 U)) (va_Qi (fun (r : Int32) (_ : Unit) => r = fX0_going p0 p1) (fun _ _ => True) (fun q : Nat => sz ≤ q)) 0 0 (fun q : Nat => sz ≤ q) := by
  refine Met.ofW (cc := cX0_going) (maxL := 6) (ret := (some .int)) (by decide) rfl ?_
  intro p e s m args below meth c s₁ B hml hv
  obtain ⟨rfl, hsz, hww⟩ := hv
  have hx := B.exec
  have hb := B.bytes
  have hr := B.returns
  have hts := atoms_spec (ws := wsX0_going) B.pre
  have hown : s.vm.findClass RX0 = some m.cls := findClass_of_methodNamed B.named
  have hlocks := B.notSynchronized
  subst hsz
  have hS : va_S (fun q : Nat => s.heap.size ≤ q) s.heap s.heap [] := va_S.rf
  have hl := lv_entry ([.ref h0, .int p0, .int p1]) (n := 6) (Nat.le_of_ble_eq_true rfl)
  rw [lg_entry_eq]
  generalize (lg_sl ([.ref h0, .int p0, .int p1]) ++ List.replicate (6 - (lg_sl ([.ref h0, .int p0, .int p1])).length) Slot.unset).toArray = ls at hl ⊢
  have hl : lv_has ls 6 [(0, .ref h0), (1, .int p0), (2, .int p1)] := hl
  refine lv_aload_n hx hb dX0_going_0 rfl (lv_at hl 0 rfl) ?_
  refine lv_iload_n hx hb dX0_going_1 rfl (lv_at hl 1 rfl) ?_
  refine va_calli (va_runV (As := [.int p0]) (rest := []) ⟨hx, hb, hml, hown, hts⟩ (mX0_kind l s.heap.size h0 t0 p0) (cwV 1 hts gX0_going_X0_kind rfl rfl rfl (by decide +kernel) ⟨Nat.le_of_ble_eq_true rfl, Nat.le_of_ble_eq_true rfl⟩) ⟨fb_ww, hww.1.at hS, fun U hU hW => ⟨rfl, congrArg Array.size hU, hww.1.go hS hU hW.alike, hww.2.go hS hU hW.alike⟩⟩ rfl rfl hl.1 rfl (lv_room (Nat.le_of_ble_eq_true rfl)) dX0_going_2 ⟨Nat.zero_le _, Nat.zero_le _⟩) hS (fun q _ h => Nat.le_trans hS.1 h) (fun q h => Nat.le_trans hS.1 h) (fun r_1 _ _ H_1 _ _ _ hw _ _ _ hS => ?_)
  subst hw
  refine lv_istore_n (lv' := [(3, .int (fX0_kind p0)), (0, .ref h0), (1, .int p0), (2, .int p1)]) hx hb dX0_going_5 rfl hl (by decide) rfl (fun ls hl => ?_)
  refine lv_iload_n hx hb dX0_going_6 rfl (lv_at hl 0 rfl) ?_
  refine lv_iload_n hx hb dX0_going_7 rfl (lv_at hl 3 rfl) ?_
  refine lv_i2l hx hb dX0_going_8 rfl ?_
  refine va_calli (va_runS (As := [.int (fX0_kind p0), .long ((p1).toInt64)]) (rest := []) ⟨hx, hb, hml, hown, hts⟩ (mX0_isWithinReach l H_1.size (fX0_kind p0) ((p1).toInt64)) (va_cwS 2 hts gX0_going_X0_isWithinReach rfl rfl rfl (by decide +kernel) ⟨Nat.le_of_ble_eq_true rfl, Nat.le_of_ble_eq_true rfl⟩) ⟨fb_pure, fun U hU hW => ⟨rfl, congrArg Array.size hU⟩⟩ rfl rfl hl.1 rfl (lv_room (Nat.le_of_ble_eq_true rfl)) dX0_going_9 ⟨Nat.zero_le _, Nat.zero_le _⟩) hS (fun q _ h => Nat.le_trans hS.1 h) (fun q h => Nat.le_trans hS.1 h) (fun r_2 _ _ H_2 _ _ _ hw _ _ _ hS => ?_)
  subst hw
  refine lv_if_ne (tgt := 17) hx hb dX0_going_12 (by decide) (fun c_3 => ?_) (fun c_3 => ?_)
  · -- taken
    refine lv_iload_n hx hb dX0_going_17 rfl (lv_at hl 0 rfl) ?_
    refine va_calli (va_runS (As := [.int (fX0_kind p0)]) (rest := []) ⟨hx, hb, hml, hown, hts⟩ (mX0_distancePlace l H_2.size (fX0_kind p0)) (va_cwS 1 hts gX0_going_X0_distancePlace rfl rfl rfl (by decide +kernel) ⟨Nat.le_of_ble_eq_true rfl, Nat.le_of_ble_eq_true rfl⟩) ⟨fb_pure, fun U hU hW => ⟨rfl, congrArg Array.size hU⟩⟩ rfl rfl hl.1 rfl (lv_room (Nat.le_of_ble_eq_true rfl)) dX0_going_18 ⟨Nat.zero_le _, Nat.zero_le _⟩) hS (fun q _ h => Nat.le_trans hS.1 h) (fun q h => Nat.le_trans hS.1 h) (fun r_4 _ _ H_4 _ _ _ hw _ _ _ hS => ?_)
    subst hw
    refine lv_istore (lv' := [(4, .int (fX0_distancePlace (fX0_kind p0))), (3, .int (fX0_kind p0)), (0, .ref h0), (1, .int p0), (2, .int p1)]) hx hb dX0_going_21 hl (by decide) rfl (fun ls hl => ?_)
    refine lv_iload_n hx hb dX0_going_23 rfl (lv_at hl 1 rfl) ?_
    refine va_calli (va_runS (As := [.int (fX0_kind p0)]) (rest := []) ⟨hx, hb, hml, hown, hts⟩ (mX0_distanceWidth l H_4.size (fX0_kind p0)) (va_cwS 1 hts gX0_going_X0_distanceWidth rfl rfl rfl (by decide +kernel) ⟨Nat.le_of_ble_eq_true rfl, Nat.le_of_ble_eq_true rfl⟩) ⟨fb_pure, fun U hU hW => ⟨rfl, congrArg Array.size hU⟩⟩ rfl rfl hl.1 rfl (lv_room (Nat.le_of_ble_eq_true rfl)) dX0_going_24 ⟨Nat.zero_le _, Nat.zero_le _⟩) hS (fun q _ h => Nat.le_trans hS.1 h) (fun q h => Nat.le_trans hS.1 h) (fun r_5 _ _ H_5 _ _ _ hw _ _ _ hS => ?_)
    subst hw
    refine va_calli (va_runS (As := [.int (fX0_distanceWidth (fX0_kind p0))]) (rest := []) ⟨hx, hb, hml, hown, hts⟩ (mX0_lowBits l H_5.size (fX0_distanceWidth (fX0_kind p0))) (va_cwS 1 hts gX0_going_X0_lowBits rfl rfl rfl (by decide +kernel) ⟨Nat.le_of_ble_eq_true rfl, Nat.le_of_ble_eq_true rfl⟩) ⟨fb_pure, fun U hU hW => ⟨rfl, congrArg Array.size hU⟩⟩ rfl rfl hl.1 rfl (lv_room (Nat.le_of_ble_eq_true rfl)) dX0_going_27 ⟨Nat.zero_le _, Nat.zero_le _⟩) hS (fun q _ h => Nat.le_trans hS.1 h) (fun q h => Nat.le_trans hS.1 h) (fun r_6 _ _ H_6 _ _ _ hw _ _ _ hS => ?_)
    subst hw
    refine lv_iload hx hb dX0_going_30 (lv_at hl 0 rfl) ?_
    refine lv_ishl hx hb dX0_going_32 ?_
    refine lv_istore (lv' := [(5, .int ((fX0_lowBits (fX0_distanceWidth (fX0_kind p0))) <<< ((fX0_distancePlace (fX0_kind p0)) &&& 31))), (4, .int (fX0_distancePlace (fX0_kind p0))), (3, .int (fX0_kind p0)), (0, .ref h0), (1, .int p0), (2, .int p1)]) hx hb dX0_going_33 hl (by decide) rfl (fun ls hl => ?_)
    refine lv_iload_n hx hb dX0_going_35 rfl (lv_at hl 4 rfl) ?_
    refine lv_iload hx hb dX0_going_36 (lv_at hl 0 rfl) ?_
    refine lv_iconst (v := -1) hx hb dX0_going_38 (by decide) ?_
    refine lv_ixor hx hb dX0_going_39 ?_
    refine lv_iand hx hb dX0_going_40 ?_
    refine lv_iload_n hx hb dX0_going_41 rfl (lv_at hl 5 rfl) ?_
    refine lv_iconst (v := 2) hx hb dX0_going_42 (by decide) ?_
    refine lv_ishr hx hb dX0_going_43 ?_
    refine lv_iload hx hb dX0_going_44 (lv_at hl 1 rfl) ?_
    refine lv_ishl hx hb dX0_going_46 ?_
    refine lv_iload hx hb dX0_going_47 (lv_at hl 0 rfl) ?_
    refine lv_iand hx hb dX0_going_49 ?_
    refine lv_ior hx hb dX0_going_50 ?_
    exact W.iret (v := ((p0 &&& (((fX0_lowBits (fX0_distanceWidth (fX0_kind p0))) <<< ((fX0_distancePlace (fX0_kind p0)) &&& 31)) ^^^ (-1 : Int32))) ||| (((p1 >>> ((2 : Int32) &&& 31)) <<< ((fX0_distancePlace (fX0_kind p0)) &&& 31)) &&& ((fX0_lowBits (fX0_distanceWidth (fX0_kind p0))) <<< ((fX0_distancePlace (fX0_kind p0)) &&& 31))))) hx hb hr (fun t ht hW => ⟨⟨((p0 &&& (((fX0_lowBits (fX0_distanceWidth (fX0_kind p0))) <<< ((fX0_distancePlace (fX0_kind p0)) &&& 31)) ^^^ (-1 : Int32))) ||| (((p1 >>> ((2 : Int32) &&& 31)) <<< ((fX0_distancePlace (fX0_kind p0)) &&& 31)) &&& ((fX0_lowBits (fX0_distanceWidth (fX0_kind p0))) <<< ((fX0_distancePlace (fX0_kind p0)) &&& 31)))), (), rfl, by rw [fX0_going, if_neg c_3], trivial⟩, hS.F ht⟩) hS.2.2 dX0_going_51
  · -- not taken
    refine lv_iload_n hx hb dX0_going_15 rfl (lv_at hl 2 rfl) ?_
    exact W.iret (v := p0) hx hb hr (fun t ht hW => ⟨⟨p0, (), rfl, by rw [fX0_going, if_pos c_3], trivial⟩, hS.F ht⟩) hS.2.2 dX0_going_16
set_option maxHeartbeats 4000000 in
set_option maxRecDepth 100000 in
theorem mX0_reaches (l : Launch) (sz : Nat) (h0 t0 : Nat) (p0 : Int32) (p1 : Int64) : Met l yX0_reaches wsX0_reaches ({ frames := 5, cells := 0, slots := 0, locals := 111 }) (va_Pc [.ref h0, .int p0, .long p1] (fun U => U.heap.size = sz ∧ wv_rcv RX0 h0 U ∧ wv_tt t0 U)) (va_Qi (fun (r : Int32) (_ : Unit) => r = fX0_reaches p0 p1) (fun _ _ => True) (fun q : Nat => sz ≤ q)) 0 0 (fun q : Nat => sz ≤ q) := by
  refine Met.ofW (cc := cX0_reaches) (maxL := 4) (ret := (some .boolean)) (by decide) rfl ?_
  intro p e s m args below meth c s₁ B hml hv
  obtain ⟨rfl, hsz, hww⟩ := hv
  have hx := B.exec
  have hb := B.bytes
  have hr := B.returns
  have hts := atoms_spec (ws := wsX0_reaches) B.pre
  have hown : s.vm.findClass RX0 = some m.cls := findClass_of_methodNamed B.named
  have hlocks := B.notSynchronized
  subst hsz
  have hS : va_S (fun q : Nat => s.heap.size ≤ q) s.heap s.heap [] := va_S.rf
  have hl := lv_entry ([.ref h0, .int p0, .long p1]) (n := 4) (Nat.le_of_ble_eq_true rfl)
  rw [lg_entry_eq]
  generalize (lg_sl ([.ref h0, .int p0, .long p1]) ++ List.replicate (4 - (lg_sl ([.ref h0, .int p0, .long p1])).length) Slot.unset).toArray = ls at hl ⊢
  have hl : lv_has ls 4 [(0, .ref h0), (1, .int p0), (2, .long p1)] := hl
  refine lv_aload_n hx hb dX0_reaches_0 rfl (lv_at hl 0 rfl) ?_
  refine lv_iload_n hx hb dX0_reaches_1 rfl (lv_at hl 1 rfl) ?_
  refine va_calli (va_runV (As := [.int p0]) (rest := []) ⟨hx, hb, hml, hown, hts⟩ (mX0_kind l s.heap.size h0 t0 p0) (cwV 1 hts gX0_reaches_X0_kind rfl rfl rfl (by decide +kernel) ⟨Nat.le_of_ble_eq_true rfl, Nat.le_of_ble_eq_true rfl⟩) ⟨fb_ww, hww.1.at hS, fun U hU hW => ⟨rfl, congrArg Array.size hU, hww.1.go hS hU hW.alike, hww.2.go hS hU hW.alike⟩⟩ rfl rfl hl.1 rfl (lv_room (Nat.le_of_ble_eq_true rfl)) dX0_reaches_2 ⟨Nat.zero_le _, Nat.zero_le _⟩) hS (fun q _ h => Nat.le_trans hS.1 h) (fun q h => Nat.le_trans hS.1 h) (fun r_1 _ _ H_1 _ _ _ hw _ _ _ hS => ?_)
  subst hw
  refine lv_lload_n hx hb dX0_reaches_5 rfl (lv_at hl 2 rfl) ?_
  refine va_calli (va_runS (As := [.int (fX0_kind p0), .long p1]) (rest := []) ⟨hx, hb, hml, hown, hts⟩ (mX0_isWithinReach l H_1.size (fX0_kind p0) p1) (va_cwS 2 hts gX0_reaches_X0_isWithinReach rfl rfl rfl (by decide +kernel) ⟨Nat.le_of_ble_eq_true rfl, Nat.le_of_ble_eq_true rfl⟩) ⟨fb_pure, fun U hU hW => ⟨rfl, congrArg Array.size hU⟩⟩ rfl rfl hl.1 rfl (lv_room (Nat.le_of_ble_eq_true rfl)) dX0_reaches_6 ⟨Nat.zero_le _, Nat.zero_le _⟩) hS (fun q _ h => Nat.le_trans hS.1 h) (fun q h => Nat.le_trans hS.1 h) (fun r_2 _ _ H_2 _ _ _ hw _ _ _ hS => ?_)
  subst hw
  exact W.zret (v := (fX0_isWithinReach (fX0_kind p0) p1)) hx hb hr (nb_01 (zX0_isWithinReach ..)) (fun t ht hW => ⟨⟨(fX0_isWithinReach (fX0_kind p0) p1), (), rfl, by rw [fX0_reaches], trivial⟩, hS.F ht⟩) hS.2.2 dX0_reaches_9
set_option maxHeartbeats 4000000 in
set_option maxRecDepth 100000 in
theorem mX0_turned (l : Launch) (sz : Nat) (h0 t0 : Nat) (p0 : Int32) : Met l yX0_turned wsX0_turned ({ frames := 5, cells := 0, slots := 0, locals := 111 }) (va_Pc [.ref h0, .int p0] (fun U => U.heap.size = sz ∧ wv_rcv RX0 h0 U ∧ wv_tt t0 U)) (va_Qi (fun (r : Int32) (_ : Unit) => r = fX0_turned p0) (fun _ _ => True) (fun q : Nat => sz ≤ q)) 0 0 (fun q : Nat => sz ≤ q) := by
  refine Met.ofW (cc := cX0_turned) (maxL := 2) (ret := (some .int)) (by decide) rfl ?_
  intro p e s m args below meth c s₁ B hml hv
  obtain ⟨rfl, hsz, hww⟩ := hv
  have hx := B.exec
  have hb := B.bytes
  have hr := B.returns
  have hts := atoms_spec (ws := wsX0_turned) B.pre
  have hown : s.vm.findClass RX0 = some m.cls := findClass_of_methodNamed B.named
  have hlocks := B.notSynchronized
  subst hsz
  have hS : va_S (fun q : Nat => s.heap.size ≤ q) s.heap s.heap [] := va_S.rf
  have hl := lv_entry ([.ref h0, .int p0]) (n := 2) (Nat.le_of_ble_eq_true rfl)
  rw [lg_entry_eq]
  generalize (lg_sl ([.ref h0, .int p0]) ++ List.replicate (2 - (lg_sl ([.ref h0, .int p0])).length) Slot.unset).toArray = ls at hl ⊢
  have hl : lv_has ls 2 [(0, .ref h0), (1, .int p0)] := hl
  refine lv_aload_n hx hb dX0_turned_0 rfl (lv_at hl 0 rfl) ?_
  refine lv_iload_n hx hb dX0_turned_1 rfl (lv_at hl 1 rfl) ?_
  refine va_calli (va_runV (As := [.int p0]) (rest := []) ⟨hx, hb, hml, hown, hts⟩ (mX0_kind l s.heap.size h0 t0 p0) (cwV 1 hts gX0_turned_X0_kind rfl rfl rfl (by decide +kernel) ⟨Nat.le_of_ble_eq_true rfl, Nat.le_of_ble_eq_true rfl⟩) ⟨fb_ww, hww.1.at hS, fun U hU hW => ⟨rfl, congrArg Array.size hU, hww.1.go hS hU hW.alike, hww.2.go hS hU hW.alike⟩⟩ rfl rfl hl.1 rfl (lv_room (Nat.le_of_ble_eq_true rfl)) dX0_turned_2 ⟨Nat.zero_le _, Nat.zero_le _⟩) hS (fun q _ h => Nat.le_trans hS.1 h) (fun q h => Nat.le_trans hS.1 h) (fun r_1 _ _ H_1 _ _ _ hw _ _ _ hS => ?_)
  subst hw
  by_cases c_2 : (fX0_kind p0) = (14 : Int32)
  · refine lv_tableIn (off := 27) (tgt := 32) hx hb dX0_turned_5 (by rw [c_2]; decide) (by rw [c_2]; decide) (by rw [c_2]; decide) (by decide) ?_
    refine lv_iload_n hx hb dX0_turned_32 rfl (lv_at hl 1 rfl) ?_
    refine lv_iconst (v := 1) hx hb dX0_turned_33 (by decide) ?_
    refine lv_ixor hx hb dX0_turned_34 ?_
    exact W.iret (v := (p0 ^^^ (1 : Int32))) hx hb hr (fun t ht hW => ⟨⟨(p0 ^^^ (1 : Int32)), (), rfl, by rw [fX0_turned, if_pos c_2], trivial⟩, hS.F ht⟩) hS.2.2 dX0_turned_35
  · -- another
    by_cases c_3 : (fX0_kind p0) = (15 : Int32)
    · refine lv_tableIn (off := 31) (tgt := 36) hx hb dX0_turned_5 (by rw [c_3]; decide) (by rw [c_3]; decide) (by rw [c_3]; decide) (by decide) ?_
      refine lv_iload_n hx hb dX0_turned_36 rfl (lv_at hl 1 rfl) ?_
      refine lv_ldc hx hb hown (hts (.constant RX0 41 (16777216)) (by decide +kernel)) dX0_turned_37 ?_
      refine lv_ixor hx hb dX0_turned_39 ?_
      exact W.iret (v := (p0 ^^^ (16777216 : Int32))) hx hb hr (fun t ht hW => ⟨⟨(p0 ^^^ (16777216 : Int32)), (), rfl, by rw [fX0_turned, if_neg c_2, if_pos c_3], trivial⟩, hS.F ht⟩) hS.2.2 dX0_turned_40
    · -- another
      by_cases c_4 : (fX0_kind p0) = (16 : Int32)
      · refine lv_tableIn (off := 31) (tgt := 36) hx hb dX0_turned_5 (by rw [c_4]; decide) (by rw [c_4]; decide) (by rw [c_4]; decide) (by decide) ?_
        refine lv_iload_n hx hb dX0_turned_36 rfl (lv_at hl 1 rfl) ?_
        refine lv_ldc hx hb hown (hts (.constant RX0 41 (16777216)) (by decide +kernel)) dX0_turned_37 ?_
        refine lv_ixor hx hb dX0_turned_39 ?_
        exact W.iret (v := (p0 ^^^ (16777216 : Int32))) hx hb hr (fun t ht hW => ⟨⟨(p0 ^^^ (16777216 : Int32)), (), rfl, by rw [fX0_turned, if_neg c_2, if_neg c_3, if_pos c_4], trivial⟩, hS.F ht⟩) hS.2.2 dX0_turned_40
      · -- another
        refine sw_def (tgt := 41) hx hb dX0_turned_5 (by decide) (fun k hk => by
            have e_0 := lv_neT c_2 (a := 14) (by decide); have e_1 := lv_neT c_3 (a := 15) (by decide); have e_2 := lv_neT c_4 (a := 16) (by decide)
            rcases (show k = 0 ∨ k = 1 ∨ k = 2 from by have hk9 : k < 3 := hk; omega) with rfl | rfl | rfl <;> first | exact Or.inl rfl | exact Or.inr (by omega)) (by decide) ?_
        refine lv_iload_n hx hb dX0_turned_41 rfl (lv_at hl 1 rfl) ?_
        exact W.iret (v := p0) hx hb hr (fun t ht hW => ⟨⟨p0, (), rfl, by rw [fX0_turned, if_neg c_2, if_neg c_3, if_neg c_4], trivial⟩, hS.F ht⟩) hS.2.2 dX0_turned_42
set_option maxHeartbeats 4000000 in
set_option maxRecDepth 100000 in
theorem mX0_page (l : Launch) (sz : Nat) (h0 t0 : Nat) (p0 : Int32) (p1 : Int64) : Met l yX0_page wsX0_page ({ frames := 5, cells := 0, slots := 0, locals := 111 }) (va_Pc [.ref h0, .int p0, .long p1] (fun U => U.heap.size = sz ∧ wv_rcv RX0 h0 U ∧ wv_tt t0 U)) (va_Ql (fun (r : Int64) (_ : Unit) => r = fX0_page p0 p1) (fun _ _ => True) (fun q : Nat => sz ≤ q)) 0 0 (fun q : Nat => sz ≤ q) := by
  refine Met.ofW (cc := cX0_page) (maxL := 6) (ret := (some .long)) (by decide) rfl ?_
  intro p e s m args below meth c s₁ B hml hv
  obtain ⟨rfl, hsz, hww⟩ := hv
  have hx := B.exec
  have hb := B.bytes
  have hr := B.returns
  have hts := atoms_spec (ws := wsX0_page) B.pre
  have hown : s.vm.findClass RX0 = some m.cls := findClass_of_methodNamed B.named
  have hlocks := B.notSynchronized
  subst hsz
  have hS : va_S (fun q : Nat => s.heap.size ≤ q) s.heap s.heap [] := va_S.rf
  have hl := lv_entry ([.ref h0, .int p0, .long p1]) (n := 6) (Nat.le_of_ble_eq_true rfl)
  rw [lg_entry_eq]
  generalize (lg_sl ([.ref h0, .int p0, .long p1]) ++ List.replicate (6 - (lg_sl ([.ref h0, .int p0, .long p1])).length) Slot.unset).toArray = ls at hl ⊢
  have hl : lv_has ls 6 [(0, .ref h0), (1, .int p0), (2, .long p1)] := hl
  refine lv_aload_n hx hb dX0_page_0 rfl (lv_at hl 0 rfl) ?_
  refine lv_iload_n hx hb dX0_page_1 rfl (lv_at hl 1 rfl) ?_
  refine va_calli (va_runV (As := [.int p0]) (rest := []) ⟨hx, hb, hml, hown, hts⟩ (mX0_kind l s.heap.size h0 t0 p0) (cwV 1 hts gX0_page_X0_kind rfl rfl rfl (by decide +kernel) ⟨Nat.le_of_ble_eq_true rfl, Nat.le_of_ble_eq_true rfl⟩) ⟨fb_ww, hww.1.at hS, fun U hU hW => ⟨rfl, congrArg Array.size hU, hww.1.go hS hU hW.alike, hww.2.go hS hU hW.alike⟩⟩ rfl rfl hl.1 rfl (lv_room (Nat.le_of_ble_eq_true rfl)) dX0_page_2 ⟨Nat.zero_le _, Nat.zero_le _⟩) hS (fun q _ h => Nat.le_trans hS.1 h) (fun q h => Nat.le_trans hS.1 h) (fun r_1 _ _ H_1 _ _ _ hw _ _ _ hS => ?_)
  subst hw
  refine lv_iconst (v := 5) hx hb dX0_page_5 (by decide) ?_
  refine lv_icmp_eq (tgt := 13) hx hb dX0_page_6 (by decide) (fun c_2 => ?_) (fun c_2 => ?_)
  · -- taken
    refine lv_iload_n hx hb dX0_page_13 rfl (lv_at hl 1 rfl) ?_
    refine lv_iconst (v := 5) hx hb dX0_page_14 (by decide) ?_
    refine lv_bipush (v := 19) hx hb dX0_page_15 (by decide) ?_
    refine va_calli (va_runS (As := [.int p0, .int (5 : Int32), .int (19 : Int32)]) (rest := []) ⟨hx, hb, hml, hown, hts⟩ (mX0_signedBits l H_1.size p0 (5 : Int32) (19 : Int32)) (va_cwS 3 hts gX0_page_X0_signedBits rfl rfl rfl (by decide +kernel) ⟨Nat.le_of_ble_eq_true rfl, Nat.le_of_ble_eq_true rfl⟩) ⟨fb_pure, fun U hU hW => ⟨rfl, congrArg Array.size hU⟩⟩ rfl rfl hl.1 rfl (lv_room (Nat.le_of_ble_eq_true rfl)) dX0_page_17 ⟨Nat.zero_le _, Nat.zero_le _⟩) hS (fun q _ h => Nat.le_trans hS.1 h) (fun q h => Nat.le_trans hS.1 h) (fun r_3 _ _ H_3 _ _ _ hw _ _ _ hS => ?_)
    subst hw
    refine lv_i2l hx hb dX0_page_20 rfl ?_
    refine lv_ldc2 hx hb hown (hts (.constantLong RX0 44 (4)) (by decide +kernel)) dX0_page_21 ?_
    refine lv_lmul hx hb dX0_page_24 ?_
    refine lv_iload_n hx hb dX0_page_25 rfl (lv_at hl 1 rfl) ?_
    refine lv_bipush (v := 29) hx hb dX0_page_26 (by decide) ?_
    refine lv_iconst (v := 2) hx hb dX0_page_28 (by decide) ?_
    refine va_calli (va_runS (As := [.int p0, .int (29 : Int32), .int (2 : Int32)]) (rest := [.long ((((fX0_signedBits p0 (5 : Int32) (19 : Int32))).toInt64) * (4 : Int64))]) ⟨hx, hb, hml, hown, hts⟩ (mX0_bits l H_3.size p0 (29 : Int32) (2 : Int32)) (va_cwS 3 hts gX0_page_X0_bits rfl rfl rfl (by decide +kernel) ⟨Nat.le_of_ble_eq_true rfl, Nat.le_of_ble_eq_true rfl⟩) ⟨fb_pure, fun U hU hW => ⟨rfl, congrArg Array.size hU⟩⟩ rfl rfl hl.1 rfl (lv_room (Nat.le_of_ble_eq_true rfl)) dX0_page_29 ⟨Nat.zero_le _, Nat.zero_le _⟩) hS (fun q _ h => Nat.le_trans hS.1 h) (fun q h => Nat.le_trans hS.1 h) (fun r_4 _ _ H_4 _ _ _ hw _ _ _ hS => ?_)
    subst hw
    refine lv_i2l hx hb dX0_page_32 rfl ?_
    refine lv_ladd hx hb dX0_page_33 ?_
    refine lv_lstore (lv' := [(4, .long (((((fX0_signedBits p0 (5 : Int32) (19 : Int32))).toInt64) * (4 : Int64)) + (((fX0_bits p0 (29 : Int32) (2 : Int32))).toInt64))), (0, .ref h0), (1, .int p0), (2, .long p1)]) hx hb dX0_page_34 hl (by decide) rfl (fun ls hl => ?_)
    refine lv_lload_n hx hb dX0_page_36 rfl (lv_at hl 3 rfl) ?_
    refine lv_bipush (v := 12) hx hb dX0_page_37 (by decide) ?_
    refine lv_lshr hx hb dX0_page_39 rfl ?_
    refine lv_lload hx hb dX0_page_40 (lv_at hl 0 rfl) ?_
    refine lv_ladd hx hb dX0_page_42 ?_
    refine lv_bipush (v := 12) hx hb dX0_page_43 (by decide) ?_
    refine lv_lshl hx hb dX0_page_45 rfl ?_
    exact W.lret (v := (((p1 >>> (((12 : Int32)).toInt64 &&& 63)) + (((((fX0_signedBits p0 (5 : Int32) (19 : Int32))).toInt64) * (4 : Int64)) + (((fX0_bits p0 (29 : Int32) (2 : Int32))).toInt64))) <<< (((12 : Int32)).toInt64 &&& 63))) hx hb hr (fun t ht hW => ⟨⟨(((p1 >>> (((12 : Int32)).toInt64 &&& 63)) + (((((fX0_signedBits p0 (5 : Int32) (19 : Int32))).toInt64) * (4 : Int64)) + (((fX0_bits p0 (29 : Int32) (2 : Int32))).toInt64))) <<< (((12 : Int32)).toInt64 &&& 63)), (), rfl, by rw [fX0_page, if_pos c_2], trivial⟩, hS.F ht⟩) hS.2.2 dX0_page_46
  · -- not taken
    refine lv_ldc2 hx hb hown (hts (.constantLong RX0 42 (-1)) (by decide +kernel)) dX0_page_9 ?_
    exact W.lret (v := (-1 : Int64)) hx hb hr (fun t ht hW => ⟨⟨(-1 : Int64), (), rfl, by rw [fX0_page, if_neg c_2], trivial⟩, hS.F ht⟩) hS.2.2 dX0_page_12
set_option maxHeartbeats 4000000 in
set_option maxRecDepth 100000 in
theorem mX0_paging (l : Launch) (sz : Nat) (h0 t0 : Nat) (p0 : Int32) (p1 : Int64) (p2 : Int64) : Met l yX0_paging wsX0_paging ({ frames := 5, cells := 0, slots := 0, locals := 111 }) (va_Pc [.ref h0, .int p0, .long p1, .long p2] (fun U => U.heap.size = sz ∧ wv_rcv RX0 h0 U ∧ wv_tt t0 U)) (va_Qi (fun (r : Int32) (_ : Unit) => r = fX0_paging p0 p1 p2) (fun _ _ => True) (fun q : Nat => sz ≤ q)) 0 0 (fun q : Nat => sz ≤ q) := by
  refine Met.ofW (cc := cX0_paging) (maxL := 11) (ret := (some .int)) (by decide) rfl ?_
  intro p e s m args below meth c s₁ B hml hv
  obtain ⟨rfl, hsz, hww⟩ := hv
  have hx := B.exec
  have hb := B.bytes
  have hr := B.returns
  have hts := atoms_spec (ws := wsX0_paging) B.pre
  have hown : s.vm.findClass RX0 = some m.cls := findClass_of_methodNamed B.named
  have hlocks := B.notSynchronized
  subst hsz
  have hS : va_S (fun q : Nat => s.heap.size ≤ q) s.heap s.heap [] := va_S.rf
  have hl := lv_entry ([.ref h0, .int p0, .long p1, .long p2]) (n := 11) (Nat.le_of_ble_eq_true rfl)
  rw [lg_entry_eq]
  generalize (lg_sl ([.ref h0, .int p0, .long p1, .long p2]) ++ List.replicate (11 - (lg_sl ([.ref h0, .int p0, .long p1, .long p2])).length) Slot.unset).toArray = ls at hl ⊢
  have hl : lv_has ls 11 [(0, .ref h0), (1, .int p0), (2, .long p1), (4, .long p2)] := hl
  refine lv_aload_n hx hb dX0_paging_0 rfl (lv_at hl 0 rfl) ?_
  refine lv_iload_n hx hb dX0_paging_1 rfl (lv_at hl 1 rfl) ?_
  refine va_calli (va_runV (As := [.int p0]) (rest := []) ⟨hx, hb, hml, hown, hts⟩ (mX0_kind l s.heap.size h0 t0 p0) (cwV 1 hts gX0_paging_X0_kind rfl rfl rfl (by decide +kernel) ⟨Nat.le_of_ble_eq_true rfl, Nat.le_of_ble_eq_true rfl⟩) ⟨fb_ww, hww.1.at hS, fun U hU hW => ⟨rfl, congrArg Array.size hU, hww.1.go hS hU hW.alike, hww.2.go hS hU hW.alike⟩⟩ rfl rfl hl.1 rfl (lv_room (Nat.le_of_ble_eq_true rfl)) dX0_paging_2 ⟨Nat.zero_le _, Nat.zero_le _⟩) hS (fun q _ h => Nat.le_trans hS.1 h) (fun q h => Nat.le_trans hS.1 h) (fun r_1 _ _ H_1 _ _ _ hw _ _ _ hS => ?_)
  subst hw
  refine lv_iconst (v := 5) hx hb dX0_paging_5 (by decide) ?_
  refine lv_icmp_eq (tgt := 11) hx hb dX0_paging_6 (by decide) (fun c_2 => ?_) (fun c_2 => ?_)
  · -- taken
    refine lv_lload hx hb dX0_paging_11 (lv_at hl 3 rfl) ?_
    refine lv_bipush (v := 12) hx hb dX0_paging_13 (by decide) ?_
    refine lv_lshr hx hb dX0_paging_15 rfl ?_
    refine lv_lload_n hx hb dX0_paging_16 rfl (lv_at hl 2 rfl) ?_
    refine lv_bipush (v := 12) hx hb dX0_paging_17 (by decide) ?_
    refine lv_lshr hx hb dX0_paging_19 rfl ?_
    refine lv_lsub hx hb dX0_paging_20 ?_
    refine lv_lstore (lv' := [(6, .long ((p2 >>> (((12 : Int32)).toInt64 &&& 63)) - (p1 >>> (((12 : Int32)).toInt64 &&& 63)))), (0, .ref h0), (1, .int p0), (2, .long p1), (4, .long p2)]) hx hb dX0_paging_21 hl (by decide) rfl (fun ls hl => ?_)
    refine lv_lload hx hb dX0_paging_23 (lv_at hl 0 rfl) ?_
    refine lv_ldc2 hx hb hown (hts (.constantLong RX0 49 (1048576)) (by decide +kernel)) dX0_paging_25 ?_
    refine W.lcmp hx hb dX0_paging_28 ?_
    refine lv_if_ge (tgt := 41) hx hb dX0_paging_29 (by decide) (fun c_3 => ?_) (fun c_3 => ?_)
    · -- taken
      refine lv_iload_n hx hb dX0_paging_41 rfl (lv_at hl 2 rfl) ?_
      exact W.iret (v := p0) hx hb hr (fun t ht hW => ⟨⟨p0, (), rfl, by rw [fX0_paging, if_pos c_2, if_pos c_3], trivial⟩, hS.F ht⟩) hS.2.2 dX0_paging_42
    · -- not taken
      refine lv_lload hx hb dX0_paging_32 (lv_at hl 0 rfl) ?_
      refine lv_ldc2 hx hb hown (hts (.constantLong RX0 51 (-1048576)) (by decide +kernel)) dX0_paging_34 ?_
      refine W.lcmp hx hb dX0_paging_37 ?_
      refine lv_if_ge (tgt := 43) hx hb dX0_paging_38 (by decide) (fun c_4 => ?_) (fun c_4 => ?_)
      · -- taken
        refine lv_lload hx hb dX0_paging_43 (lv_at hl 0 rfl) ?_
        refine lv_l2i hx hb dX0_paging_45 rfl ?_
        refine lv_istore (lv' := [(8, .int ((((p2 >>> (((12 : Int32)).toInt64 &&& 63)) - (p1 >>> (((12 : Int32)).toInt64 &&& 63)))).toInt32)), (6, .long ((p2 >>> (((12 : Int32)).toInt64 &&& 63)) - (p1 >>> (((12 : Int32)).toInt64 &&& 63)))), (0, .ref h0), (1, .int p0), (2, .long p1), (4, .long p2)]) hx hb dX0_paging_46 hl (by decide) rfl (fun ls hl => ?_)
        refine lv_iload hx hb dX0_paging_48 (lv_at hl 0 rfl) ?_
        refine lv_iconst (v := 2) hx hb dX0_paging_50 (by decide) ?_
        refine lv_bipush (v := 19) hx hb dX0_paging_51 (by decide) ?_
        refine va_calli (va_runS (As := [.int ((((p2 >>> (((12 : Int32)).toInt64 &&& 63)) - (p1 >>> (((12 : Int32)).toInt64 &&& 63)))).toInt32), .int (2 : Int32), .int (19 : Int32)]) (rest := []) ⟨hx, hb, hml, hown, hts⟩ (mX0_bits l H_1.size ((((p2 >>> (((12 : Int32)).toInt64 &&& 63)) - (p1 >>> (((12 : Int32)).toInt64 &&& 63)))).toInt32) (2 : Int32) (19 : Int32)) (va_cwS 3 hts gX0_paging_X0_bits rfl rfl rfl (by decide +kernel) ⟨Nat.le_of_ble_eq_true rfl, Nat.le_of_ble_eq_true rfl⟩) ⟨fb_pure, fun U hU hW => ⟨rfl, congrArg Array.size hU⟩⟩ rfl rfl hl.1 rfl (lv_room (Nat.le_of_ble_eq_true rfl)) dX0_paging_53 ⟨Nat.zero_le _, Nat.zero_le _⟩) hS (fun q _ h => Nat.le_trans hS.1 h) (fun q h => Nat.le_trans hS.1 h) (fun r_5 _ _ H_5 _ _ _ hw _ _ _ hS => ?_)
        subst hw
        refine lv_iconst (v := 5) hx hb dX0_paging_56 (by decide) ?_
        refine lv_ishl hx hb dX0_paging_57 ?_
        refine lv_istore (lv' := [(9, .int ((fX0_bits ((((p2 >>> (((12 : Int32)).toInt64 &&& 63)) - (p1 >>> (((12 : Int32)).toInt64 &&& 63)))).toInt32) (2 : Int32) (19 : Int32)) <<< ((5 : Int32) &&& 31))), (8, .int ((((p2 >>> (((12 : Int32)).toInt64 &&& 63)) - (p1 >>> (((12 : Int32)).toInt64 &&& 63)))).toInt32)), (6, .long ((p2 >>> (((12 : Int32)).toInt64 &&& 63)) - (p1 >>> (((12 : Int32)).toInt64 &&& 63)))), (0, .ref h0), (1, .int p0), (2, .long p1), (4, .long p2)]) hx hb dX0_paging_58 hl (by decide) rfl (fun ls hl => ?_)
        refine lv_iload hx hb dX0_paging_60 (lv_at hl 1 rfl) ?_
        refine lv_iconst (v := 0) hx hb dX0_paging_62 (by decide) ?_
        refine lv_iconst (v := 2) hx hb dX0_paging_63 (by decide) ?_
        refine va_calli (va_runS (As := [.int ((((p2 >>> (((12 : Int32)).toInt64 &&& 63)) - (p1 >>> (((12 : Int32)).toInt64 &&& 63)))).toInt32), .int (0 : Int32), .int (2 : Int32)]) (rest := []) ⟨hx, hb, hml, hown, hts⟩ (mX0_bits l H_5.size ((((p2 >>> (((12 : Int32)).toInt64 &&& 63)) - (p1 >>> (((12 : Int32)).toInt64 &&& 63)))).toInt32) (0 : Int32) (2 : Int32)) (va_cwS 3 hts gX0_paging_X0_bits rfl rfl rfl (by decide +kernel) ⟨Nat.le_of_ble_eq_true rfl, Nat.le_of_ble_eq_true rfl⟩) ⟨fb_pure, fun U hU hW => ⟨rfl, congrArg Array.size hU⟩⟩ rfl rfl hl.1 rfl (lv_room (Nat.le_of_ble_eq_true rfl)) dX0_paging_64 ⟨Nat.zero_le _, Nat.zero_le _⟩) hS (fun q _ h => Nat.le_trans hS.1 h) (fun q h => Nat.le_trans hS.1 h) (fun r_6 _ _ H_6 _ _ _ hw _ _ _ hS => ?_)
        subst hw
        refine lv_bipush (v := 29) hx hb dX0_paging_67 (by decide) ?_
        refine lv_ishl hx hb dX0_paging_69 ?_
        refine lv_istore (lv' := [(10, .int ((fX0_bits ((((p2 >>> (((12 : Int32)).toInt64 &&& 63)) - (p1 >>> (((12 : Int32)).toInt64 &&& 63)))).toInt32) (0 : Int32) (2 : Int32)) <<< ((29 : Int32) &&& 31))), (9, .int ((fX0_bits ((((p2 >>> (((12 : Int32)).toInt64 &&& 63)) - (p1 >>> (((12 : Int32)).toInt64 &&& 63)))).toInt32) (2 : Int32) (19 : Int32)) <<< ((5 : Int32) &&& 31))), (8, .int ((((p2 >>> (((12 : Int32)).toInt64 &&& 63)) - (p1 >>> (((12 : Int32)).toInt64 &&& 63)))).toInt32)), (6, .long ((p2 >>> (((12 : Int32)).toInt64 &&& 63)) - (p1 >>> (((12 : Int32)).toInt64 &&& 63)))), (0, .ref h0), (1, .int p0), (2, .long p1), (4, .long p2)]) hx hb dX0_paging_70 hl (by decide) rfl (fun ls hl => ?_)
        refine lv_iload_n hx hb dX0_paging_72 rfl (lv_at hl 5 rfl) ?_
        refine lv_ldc hx hb hown (hts (.constant RX0 53 (-1627389921)) (by decide +kernel)) dX0_paging_73 ?_
        refine lv_iand hx hb dX0_paging_75 ?_
        refine lv_iload hx hb dX0_paging_76 (lv_at hl 1 rfl) ?_
        refine lv_ior hx hb dX0_paging_78 ?_
        refine lv_iload hx hb dX0_paging_79 (lv_at hl 0 rfl) ?_
        refine lv_ior hx hb dX0_paging_81 ?_
        exact W.iret (v := (((p0 &&& (-1627389921 : Int32)) ||| ((fX0_bits ((((p2 >>> (((12 : Int32)).toInt64 &&& 63)) - (p1 >>> (((12 : Int32)).toInt64 &&& 63)))).toInt32) (2 : Int32) (19 : Int32)) <<< ((5 : Int32) &&& 31))) ||| ((fX0_bits ((((p2 >>> (((12 : Int32)).toInt64 &&& 63)) - (p1 >>> (((12 : Int32)).toInt64 &&& 63)))).toInt32) (0 : Int32) (2 : Int32)) <<< ((29 : Int32) &&& 31)))) hx hb hr (fun t ht hW => ⟨⟨(((p0 &&& (-1627389921 : Int32)) ||| ((fX0_bits ((((p2 >>> (((12 : Int32)).toInt64 &&& 63)) - (p1 >>> (((12 : Int32)).toInt64 &&& 63)))).toInt32) (2 : Int32) (19 : Int32)) <<< ((5 : Int32) &&& 31))) ||| ((fX0_bits ((((p2 >>> (((12 : Int32)).toInt64 &&& 63)) - (p1 >>> (((12 : Int32)).toInt64 &&& 63)))).toInt32) (0 : Int32) (2 : Int32)) <<< ((29 : Int32) &&& 31))), (), rfl, by rw [fX0_paging, if_pos c_2, if_neg c_3, if_pos c_4], trivial⟩, hS.F ht⟩) hS.2.2 dX0_paging_82
      · -- not taken
        refine lv_iload_n hx hb dX0_paging_41 rfl (lv_at hl 2 rfl) ?_
        exact W.iret (v := p0) hx hb hr (fun t ht hW => ⟨⟨p0, (), rfl, by rw [fX0_paging, if_pos c_2, if_neg c_3, if_neg c_4], trivial⟩, hS.F ht⟩) hS.2.2 dX0_paging_42
  · -- not taken
    refine lv_iload_n hx hb dX0_paging_9 rfl (lv_at hl 1 rfl) ?_
    exact W.iret (v := p0) hx hb hr (fun t ht hW => ⟨⟨p0, (), rfl, by rw [fX0_paging, if_neg c_2], trivial⟩, hS.F ht⟩) hS.2.2 dX0_paging_10
set_option maxHeartbeats 4000000 in
set_option maxRecDepth 100000 in
theorem mX0_goesOn (l : Launch) (sz : Nat) (h0 t0 : Nat) (p0 : Int32) : Met l yX0_goesOn wsX0_goesOn ({ frames := 5, cells := 0, slots := 0, locals := 111 }) (va_Pc [.ref h0, .int p0] (fun U => U.heap.size = sz ∧ wv_rcv RX0 h0 U ∧ wv_tt t0 U)) (va_Qi (fun (r : Int32) (_ : Unit) => r = fX0_goesOn p0) (fun _ _ => True) (fun q : Nat => sz ≤ q)) 0 0 (fun q : Nat => sz ≤ q) := by
  refine Met.ofW (cc := cX0_goesOn) (maxL := 3) (ret := (some .boolean)) (by decide) rfl ?_
  intro p e s m args below meth c s₁ B hml hv
  obtain ⟨rfl, hsz, hww⟩ := hv
  have hx := B.exec
  have hb := B.bytes
  have hr := B.returns
  have hts := atoms_spec (ws := wsX0_goesOn) B.pre
  have hown : s.vm.findClass RX0 = some m.cls := findClass_of_methodNamed B.named
  have hlocks := B.notSynchronized
  subst hsz
  have hS : va_S (fun q : Nat => s.heap.size ≤ q) s.heap s.heap [] := va_S.rf
  have hl := lv_entry ([.ref h0, .int p0]) (n := 3) (Nat.le_of_ble_eq_true rfl)
  rw [lg_entry_eq]
  generalize (lg_sl ([.ref h0, .int p0]) ++ List.replicate (3 - (lg_sl ([.ref h0, .int p0])).length) Slot.unset).toArray = ls at hl ⊢
  have hl : lv_has ls 3 [(0, .ref h0), (1, .int p0)] := hl
  refine lv_aload_n hx hb dX0_goesOn_0 rfl (lv_at hl 0 rfl) ?_
  refine lv_iload_n hx hb dX0_goesOn_1 rfl (lv_at hl 1 rfl) ?_
  refine va_calli (va_runV (As := [.int p0]) (rest := []) ⟨hx, hb, hml, hown, hts⟩ (mX0_kind l s.heap.size h0 t0 p0) (cwV 1 hts gX0_goesOn_X0_kind rfl rfl rfl (by decide +kernel) ⟨Nat.le_of_ble_eq_true rfl, Nat.le_of_ble_eq_true rfl⟩) ⟨fb_ww, hww.1.at hS, fun U hU hW => ⟨rfl, congrArg Array.size hU, hww.1.go hS hU hW.alike, hww.2.go hS hU hW.alike⟩⟩ rfl rfl hl.1 rfl (lv_room (Nat.le_of_ble_eq_true rfl)) dX0_goesOn_2 ⟨Nat.zero_le _, Nat.zero_le _⟩) hS (fun q _ h => Nat.le_trans hS.1 h) (fun q h => Nat.le_trans hS.1 h) (fun r_1 _ _ H_1 _ _ _ hw _ _ _ hS => ?_)
  subst hw
  refine lv_istore_n (lv' := [(2, .int (fX0_kind p0)), (0, .ref h0), (1, .int p0)]) hx hb dX0_goesOn_5 rfl hl (by decide) rfl (fun ls hl => ?_)
  refine lv_iload_n hx hb dX0_goesOn_6 rfl (lv_at hl 0 rfl) ?_
  refine lv_if_eq (tgt := 32) hx hb dX0_goesOn_7 (by decide) (fun c_2 => ?_) (fun c_2 => ?_)
  · -- taken
    refine lv_iconst (v := 0) hx hb dX0_goesOn_32 (by decide) ?_
    exact W.zret (v := (0 : Int32)) hx hb hr (nb_01 (Or.inl rfl)) (fun t ht hW => ⟨⟨(0 : Int32), (), rfl, by rw [fX0_goesOn, if_pos c_2], trivial⟩, hS.F ht⟩) hS.2.2 dX0_goesOn_33
  · -- not taken
    refine lv_iload_n hx hb dX0_goesOn_10 rfl (lv_at hl 0 rfl) ?_
    refine lv_bipush (v := 12) hx hb dX0_goesOn_11 (by decide) ?_
    refine lv_icmp_eq (tgt := 32) hx hb dX0_goesOn_13 (by decide) (fun c_3 => ?_) (fun c_3 => ?_)
    · -- taken
      refine lv_iconst (v := 0) hx hb dX0_goesOn_32 (by decide) ?_
      exact W.zret (v := (0 : Int32)) hx hb hr (nb_01 (Or.inl rfl)) (fun t ht hW => ⟨⟨(0 : Int32), (), rfl, by rw [fX0_goesOn, if_neg c_2, if_pos c_3], trivial⟩, hS.F ht⟩) hS.2.2 dX0_goesOn_33
    · -- not taken
      refine lv_iload_n hx hb dX0_goesOn_16 rfl (lv_at hl 0 rfl) ?_
      refine lv_bipush (v := 17) hx hb dX0_goesOn_17 (by decide) ?_
      refine lv_icmp_eq (tgt := 32) hx hb dX0_goesOn_19 (by decide) (fun c_4 => ?_) (fun c_4 => ?_)
      · -- taken
        refine lv_iconst (v := 0) hx hb dX0_goesOn_32 (by decide) ?_
        exact W.zret (v := (0 : Int32)) hx hb hr (nb_01 (Or.inl rfl)) (fun t ht hW => ⟨⟨(0 : Int32), (), rfl, by rw [fX0_goesOn, if_neg c_2, if_neg c_3, if_pos c_4], trivial⟩, hS.F ht⟩) hS.2.2 dX0_goesOn_33
      · -- not taken
        refine lv_iload_n hx hb dX0_goesOn_22 rfl (lv_at hl 0 rfl) ?_
        refine lv_bipush (v := 19) hx hb dX0_goesOn_23 (by decide) ?_
        refine lv_icmp_eq (tgt := 32) hx hb dX0_goesOn_25 (by decide) (fun c_5 => ?_) (fun c_5 => ?_)
        · -- taken
          refine lv_iconst (v := 0) hx hb dX0_goesOn_32 (by decide) ?_
          exact W.zret (v := (0 : Int32)) hx hb hr (nb_01 (Or.inl rfl)) (fun t ht hW => ⟨⟨(0 : Int32), (), rfl, by rw [fX0_goesOn, if_neg c_2, if_neg c_3, if_neg c_4, if_pos c_5], trivial⟩, hS.F ht⟩) hS.2.2 dX0_goesOn_33
        · -- not taken
          refine lv_iconst (v := 1) hx hb dX0_goesOn_28 (by decide) ?_
          refine lv_goto (tgt := 33) hx hb dX0_goesOn_29 (by decide) ?_
          exact W.zret (v := (1 : Int32)) hx hb hr (nb_01 (Or.inr rfl)) (fun t ht hW => ⟨⟨(1 : Int32), (), rfl, by rw [fX0_goesOn, if_neg c_2, if_neg c_3, if_neg c_4, if_neg c_5], trivial⟩, hS.F ht⟩) hS.2.2 dX0_goesOn_33
set_option maxHeartbeats 4000000 in
set_option maxRecDepth 100000 in
theorem mX0_hasD (l : Launch) (sz : Nat) (p0 : Int32) : Met l yX0_hasD wsX0_hasD ({ frames := 0, cells := 0, slots := 0, locals := 0 }) (va_Pc [.int p0] (fun U => U.heap.size = sz)) (va_Qi (fun (r : Int32) (_ : Unit) => r = fX0_hasD p0) (fun _ _ => True) (fun q : Nat => sz ≤ q)) 0 0 (fun q : Nat => sz ≤ q) := by
  refine Met.ofW (cc := cX0_hasD) (maxL := 1) (ret := (some .boolean)) (by decide) rfl ?_
  intro p e s m args below meth c s₁ B hml hv
  obtain ⟨rfl, hsz⟩ := hv
  have hx := B.exec
  have hb := B.bytes
  have hr := B.returns
  have hts := atoms_spec (ws := wsX0_hasD) B.pre
  have hown : s.vm.findClass RX0 = some m.cls := findClass_of_methodNamed B.named
  have hlocks := B.notSynchronized
  subst hsz
  have hS : va_S (fun q : Nat => s.heap.size ≤ q) s.heap s.heap [] := va_S.rf
  have hl := lv_entry ([.int p0]) (n := 1) (Nat.le_of_ble_eq_true rfl)
  rw [lg_entry_eq]
  generalize (lg_sl ([.int p0]) ++ List.replicate (1 - (lg_sl ([.int p0])).length) Slot.unset).toArray = ls at hl ⊢
  have hl : lv_has ls 1 [(0, .int p0)] := hl
  refine lv_iload_n hx hb dX0_hasD_0 rfl (lv_at hl 0 rfl) ?_
  refine lv_iconst (v := 1) hx hb dX0_hasD_1 (by decide) ?_
  refine lv_icmp_lt (tgt := 11) hx hb dX0_hasD_2 (by decide) (fun c_1 => ?_) (fun c_1 => ?_)
  · -- taken
    refine lv_iload_n hx hb dX0_hasD_11 rfl (lv_at hl 0 rfl) ?_
    refine lv_bipush (v := 15) hx hb dX0_hasD_12 (by decide) ?_
    refine lv_icmp_eq (tgt := 23) hx hb dX0_hasD_14 (by decide) (fun c_2 => ?_) (fun c_2 => ?_)
    · -- taken
      refine lv_iconst (v := 1) hx hb dX0_hasD_23 (by decide) ?_
      refine lv_goto (tgt := 28) hx hb dX0_hasD_24 (by decide) ?_
      exact W.zret (v := (1 : Int32)) hx hb hr (nb_01 (Or.inr rfl)) (fun t ht hW => ⟨⟨(1 : Int32), (), rfl, by rw [fX0_hasD, if_pos c_1, if_pos c_2], trivial⟩, hS.F ht⟩) hS.2.2 dX0_hasD_28
    · -- not taken
      refine lv_iload_n hx hb dX0_hasD_17 rfl (lv_at hl 0 rfl) ?_
      refine lv_bipush (v := 16) hx hb dX0_hasD_18 (by decide) ?_
      refine lv_icmp_ne (tgt := 27) hx hb dX0_hasD_20 (by decide) (fun c_3 => ?_) (fun c_3 => ?_)
      · -- taken
        refine lv_iconst (v := 0) hx hb dX0_hasD_27 (by decide) ?_
        exact W.zret (v := (0 : Int32)) hx hb hr (nb_01 (Or.inl rfl)) (fun t ht hW => ⟨⟨(0 : Int32), (), rfl, by rw [fX0_hasD, if_pos c_1, if_neg c_2, if_neg c_3], trivial⟩, hS.F ht⟩) hS.2.2 dX0_hasD_28
      · -- not taken
        refine lv_iconst (v := 1) hx hb dX0_hasD_23 (by decide) ?_
        refine lv_goto (tgt := 28) hx hb dX0_hasD_24 (by decide) ?_
        exact W.zret (v := (1 : Int32)) hx hb hr (nb_01 (Or.inr rfl)) (fun t ht hW => ⟨⟨(1 : Int32), (), rfl, by rw [fX0_hasD, if_pos c_1, if_neg c_2, if_pos c_3], trivial⟩, hS.F ht⟩) hS.2.2 dX0_hasD_28
  · -- not taken
    refine lv_iload_n hx hb dX0_hasD_5 rfl (lv_at hl 0 rfl) ?_
    refine lv_bipush (v := 11) hx hb dX0_hasD_6 (by decide) ?_
    refine lv_icmp_le (tgt := 23) hx hb dX0_hasD_8 (by decide) (fun c_4 => ?_) (fun c_4 => ?_)
    · -- taken
      refine lv_iconst (v := 1) hx hb dX0_hasD_23 (by decide) ?_
      refine lv_goto (tgt := 28) hx hb dX0_hasD_24 (by decide) ?_
      exact W.zret (v := (1 : Int32)) hx hb hr (nb_01 (Or.inr rfl)) (fun t ht hW => ⟨⟨(1 : Int32), (), rfl, by rw [fX0_hasD, if_neg c_1, if_pos c_4], trivial⟩, hS.F ht⟩) hS.2.2 dX0_hasD_28
    · -- not taken
      refine lv_iload_n hx hb dX0_hasD_11 rfl (lv_at hl 0 rfl) ?_
      refine lv_bipush (v := 15) hx hb dX0_hasD_12 (by decide) ?_
      refine lv_icmp_eq (tgt := 23) hx hb dX0_hasD_14 (by decide) (fun c_5 => ?_) (fun c_5 => ?_)
      · -- taken
        refine lv_iconst (v := 1) hx hb dX0_hasD_23 (by decide) ?_
        refine lv_goto (tgt := 28) hx hb dX0_hasD_24 (by decide) ?_
        exact W.zret (v := (1 : Int32)) hx hb hr (nb_01 (Or.inr rfl)) (fun t ht hW => ⟨⟨(1 : Int32), (), rfl, by rw [fX0_hasD, if_neg c_1, if_neg c_4, if_pos c_5], trivial⟩, hS.F ht⟩) hS.2.2 dX0_hasD_28
      · -- not taken
        refine lv_iload_n hx hb dX0_hasD_17 rfl (lv_at hl 0 rfl) ?_
        refine lv_bipush (v := 16) hx hb dX0_hasD_18 (by decide) ?_
        refine lv_icmp_ne (tgt := 27) hx hb dX0_hasD_20 (by decide) (fun c_6 => ?_) (fun c_6 => ?_)
        · -- taken
          refine lv_iconst (v := 0) hx hb dX0_hasD_27 (by decide) ?_
          exact W.zret (v := (0 : Int32)) hx hb hr (nb_01 (Or.inl rfl)) (fun t ht hW => ⟨⟨(0 : Int32), (), rfl, by rw [fX0_hasD, if_neg c_1, if_neg c_4, if_neg c_5, if_neg c_6], trivial⟩, hS.F ht⟩) hS.2.2 dX0_hasD_28
        · -- not taken
          refine lv_iconst (v := 1) hx hb dX0_hasD_23 (by decide) ?_
          refine lv_goto (tgt := 28) hx hb dX0_hasD_24 (by decide) ?_
          exact W.zret (v := (1 : Int32)) hx hb hr (nb_01 (Or.inr rfl)) (fun t ht hW => ⟨⟨(1 : Int32), (), rfl, by rw [fX0_hasD, if_neg c_1, if_neg c_4, if_neg c_5, if_pos c_6], trivial⟩, hS.F ht⟩) hS.2.2 dX0_hasD_28
set_option maxHeartbeats 4000000 in
set_option maxRecDepth 100000 in
theorem mX0_hasN (l : Launch) (sz : Nat) (p0 : Int32) : Met l yX0_hasN wsX0_hasN ({ frames := 0, cells := 0, slots := 0, locals := 0 }) (va_Pc [.int p0] (fun U => U.heap.size = sz)) (va_Qi (fun (r : Int32) (_ : Unit) => r = fX0_hasN p0) (fun _ _ => True) (fun q : Nat => sz ≤ q)) 0 0 (fun q : Nat => sz ≤ q) := by
  refine Met.ofW (cc := cX0_hasN) (maxL := 1) (ret := (some .boolean)) (by decide) rfl ?_
  intro p e s m args below meth c s₁ B hml hv
  obtain ⟨rfl, hsz⟩ := hv
  have hx := B.exec
  have hb := B.bytes
  have hr := B.returns
  have hts := atoms_spec (ws := wsX0_hasN) B.pre
  have hown : s.vm.findClass RX0 = some m.cls := findClass_of_methodNamed B.named
  have hlocks := B.notSynchronized
  subst hsz
  have hS : va_S (fun q : Nat => s.heap.size ≤ q) s.heap s.heap [] := va_S.rf
  have hl := lv_entry ([.int p0]) (n := 1) (Nat.le_of_ble_eq_true rfl)
  rw [lg_entry_eq]
  generalize (lg_sl ([.int p0]) ++ List.replicate (1 - (lg_sl ([.int p0])).length) Slot.unset).toArray = ls at hl ⊢
  have hl : lv_has ls 1 [(0, .int p0)] := hl
  refine lv_iload_n hx hb dX0_hasN_0 rfl (lv_at hl 0 rfl) ?_
  refine lv_iconst (v := 1) hx hb dX0_hasN_1 (by decide) ?_
  refine lv_icmp_lt (tgt := 10) hx hb dX0_hasN_2 (by decide) (fun c_1 => ?_) (fun c_1 => ?_)
  · -- taken
    refine lv_iload_n hx hb dX0_hasN_10 rfl (lv_at hl 0 rfl) ?_
    refine lv_bipush (v := 6) hx hb dX0_hasN_11 (by decide) ?_
    refine lv_icmp_lt (tgt := 22) hx hb dX0_hasN_13 (by decide) (fun c_2 => ?_) (fun c_2 => ?_)
    · -- taken
      refine lv_iload_n hx hb dX0_hasN_22 rfl (lv_at hl 0 rfl) ?_
      refine lv_bipush (v := 17) hx hb dX0_hasN_23 (by decide) ?_
      refine lv_icmp_lt (tgt := 38) hx hb dX0_hasN_25 (by decide) (fun c_3 => ?_) (fun c_3 => ?_)
      · -- taken
        refine lv_iconst (v := 0) hx hb dX0_hasN_38 (by decide) ?_
        exact W.zret (v := (0 : Int32)) hx hb hr (nb_01 (Or.inl rfl)) (fun t ht hW => ⟨⟨(0 : Int32), (), rfl, by rw [fX0_hasN, if_pos c_1, if_pos c_2, if_pos c_3], trivial⟩, hS.F ht⟩) hS.2.2 dX0_hasN_39
      · -- not taken
        refine lv_iload_n hx hb dX0_hasN_28 rfl (lv_at hl 0 rfl) ?_
        refine lv_bipush (v := 19) hx hb dX0_hasN_29 (by decide) ?_
        refine lv_icmp_gt (tgt := 38) hx hb dX0_hasN_31 (by decide) (fun c_4 => ?_) (fun c_4 => ?_)
        · -- taken
          refine lv_iconst (v := 0) hx hb dX0_hasN_38 (by decide) ?_
          exact W.zret (v := (0 : Int32)) hx hb hr (nb_01 (Or.inl rfl)) (fun t ht hW => ⟨⟨(0 : Int32), (), rfl, by rw [fX0_hasN, if_pos c_1, if_pos c_2, if_neg c_3, if_pos c_4], trivial⟩, hS.F ht⟩) hS.2.2 dX0_hasN_39
        · -- not taken
          refine lv_iconst (v := 1) hx hb dX0_hasN_34 (by decide) ?_
          refine lv_goto (tgt := 39) hx hb dX0_hasN_35 (by decide) ?_
          exact W.zret (v := (1 : Int32)) hx hb hr (nb_01 (Or.inr rfl)) (fun t ht hW => ⟨⟨(1 : Int32), (), rfl, by rw [fX0_hasN, if_pos c_1, if_pos c_2, if_neg c_3, if_neg c_4], trivial⟩, hS.F ht⟩) hS.2.2 dX0_hasN_39
    · -- not taken
      refine lv_iload_n hx hb dX0_hasN_16 rfl (lv_at hl 0 rfl) ?_
      refine lv_bipush (v := 11) hx hb dX0_hasN_17 (by decide) ?_
      refine lv_icmp_le (tgt := 34) hx hb dX0_hasN_19 (by decide) (fun c_5 => ?_) (fun c_5 => ?_)
      · -- taken
        refine lv_iconst (v := 1) hx hb dX0_hasN_34 (by decide) ?_
        refine lv_goto (tgt := 39) hx hb dX0_hasN_35 (by decide) ?_
        exact W.zret (v := (1 : Int32)) hx hb hr (nb_01 (Or.inr rfl)) (fun t ht hW => ⟨⟨(1 : Int32), (), rfl, by rw [fX0_hasN, if_pos c_1, if_neg c_2, if_pos c_5], trivial⟩, hS.F ht⟩) hS.2.2 dX0_hasN_39
      · -- not taken
        refine lv_iload_n hx hb dX0_hasN_22 rfl (lv_at hl 0 rfl) ?_
        refine lv_bipush (v := 17) hx hb dX0_hasN_23 (by decide) ?_
        refine lv_icmp_lt (tgt := 38) hx hb dX0_hasN_25 (by decide) (fun c_6 => ?_) (fun c_6 => ?_)
        · -- taken
          refine lv_iconst (v := 0) hx hb dX0_hasN_38 (by decide) ?_
          exact W.zret (v := (0 : Int32)) hx hb hr (nb_01 (Or.inl rfl)) (fun t ht hW => ⟨⟨(0 : Int32), (), rfl, by rw [fX0_hasN, if_pos c_1, if_neg c_2, if_neg c_5, if_pos c_6], trivial⟩, hS.F ht⟩) hS.2.2 dX0_hasN_39
        · -- not taken
          refine lv_iload_n hx hb dX0_hasN_28 rfl (lv_at hl 0 rfl) ?_
          refine lv_bipush (v := 19) hx hb dX0_hasN_29 (by decide) ?_
          refine lv_icmp_gt (tgt := 38) hx hb dX0_hasN_31 (by decide) (fun c_7 => ?_) (fun c_7 => ?_)
          · -- taken
            refine lv_iconst (v := 0) hx hb dX0_hasN_38 (by decide) ?_
            exact W.zret (v := (0 : Int32)) hx hb hr (nb_01 (Or.inl rfl)) (fun t ht hW => ⟨⟨(0 : Int32), (), rfl, by rw [fX0_hasN, if_pos c_1, if_neg c_2, if_neg c_5, if_neg c_6, if_pos c_7], trivial⟩, hS.F ht⟩) hS.2.2 dX0_hasN_39
          · -- not taken
            refine lv_iconst (v := 1) hx hb dX0_hasN_34 (by decide) ?_
            refine lv_goto (tgt := 39) hx hb dX0_hasN_35 (by decide) ?_
            exact W.zret (v := (1 : Int32)) hx hb hr (nb_01 (Or.inr rfl)) (fun t ht hW => ⟨⟨(1 : Int32), (), rfl, by rw [fX0_hasN, if_pos c_1, if_neg c_2, if_neg c_5, if_neg c_6, if_neg c_7], trivial⟩, hS.F ht⟩) hS.2.2 dX0_hasN_39
  · -- not taken
    refine lv_iload_n hx hb dX0_hasN_5 rfl (lv_at hl 0 rfl) ?_
    refine lv_iconst (v := 3) hx hb dX0_hasN_6 (by decide) ?_
    refine lv_icmp_le (tgt := 34) hx hb dX0_hasN_7 (by decide) (fun c_8 => ?_) (fun c_8 => ?_)
    · -- taken
      refine lv_iconst (v := 1) hx hb dX0_hasN_34 (by decide) ?_
      refine lv_goto (tgt := 39) hx hb dX0_hasN_35 (by decide) ?_
      exact W.zret (v := (1 : Int32)) hx hb hr (nb_01 (Or.inr rfl)) (fun t ht hW => ⟨⟨(1 : Int32), (), rfl, by rw [fX0_hasN, if_neg c_1, if_pos c_8], trivial⟩, hS.F ht⟩) hS.2.2 dX0_hasN_39
    · -- not taken
      refine lv_iload_n hx hb dX0_hasN_10 rfl (lv_at hl 0 rfl) ?_
      refine lv_bipush (v := 6) hx hb dX0_hasN_11 (by decide) ?_
      refine lv_icmp_lt (tgt := 22) hx hb dX0_hasN_13 (by decide) (fun c_9 => ?_) (fun c_9 => ?_)
      · -- taken
        refine lv_iload_n hx hb dX0_hasN_22 rfl (lv_at hl 0 rfl) ?_
        refine lv_bipush (v := 17) hx hb dX0_hasN_23 (by decide) ?_
        refine lv_icmp_lt (tgt := 38) hx hb dX0_hasN_25 (by decide) (fun c_10 => ?_) (fun c_10 => ?_)
        · -- taken
          refine lv_iconst (v := 0) hx hb dX0_hasN_38 (by decide) ?_
          exact W.zret (v := (0 : Int32)) hx hb hr (nb_01 (Or.inl rfl)) (fun t ht hW => ⟨⟨(0 : Int32), (), rfl, by rw [fX0_hasN, if_neg c_1, if_neg c_8, if_pos c_9, if_pos c_10], trivial⟩, hS.F ht⟩) hS.2.2 dX0_hasN_39
        · -- not taken
          refine lv_iload_n hx hb dX0_hasN_28 rfl (lv_at hl 0 rfl) ?_
          refine lv_bipush (v := 19) hx hb dX0_hasN_29 (by decide) ?_
          refine lv_icmp_gt (tgt := 38) hx hb dX0_hasN_31 (by decide) (fun c_11 => ?_) (fun c_11 => ?_)
          · -- taken
            refine lv_iconst (v := 0) hx hb dX0_hasN_38 (by decide) ?_
            exact W.zret (v := (0 : Int32)) hx hb hr (nb_01 (Or.inl rfl)) (fun t ht hW => ⟨⟨(0 : Int32), (), rfl, by rw [fX0_hasN, if_neg c_1, if_neg c_8, if_pos c_9, if_neg c_10, if_pos c_11], trivial⟩, hS.F ht⟩) hS.2.2 dX0_hasN_39
          · -- not taken
            refine lv_iconst (v := 1) hx hb dX0_hasN_34 (by decide) ?_
            refine lv_goto (tgt := 39) hx hb dX0_hasN_35 (by decide) ?_
            exact W.zret (v := (1 : Int32)) hx hb hr (nb_01 (Or.inr rfl)) (fun t ht hW => ⟨⟨(1 : Int32), (), rfl, by rw [fX0_hasN, if_neg c_1, if_neg c_8, if_pos c_9, if_neg c_10, if_neg c_11], trivial⟩, hS.F ht⟩) hS.2.2 dX0_hasN_39
      · -- not taken
        refine lv_iload_n hx hb dX0_hasN_16 rfl (lv_at hl 0 rfl) ?_
        refine lv_bipush (v := 11) hx hb dX0_hasN_17 (by decide) ?_
        refine lv_icmp_le (tgt := 34) hx hb dX0_hasN_19 (by decide) (fun c_12 => ?_) (fun c_12 => ?_)
        · -- taken
          refine lv_iconst (v := 1) hx hb dX0_hasN_34 (by decide) ?_
          refine lv_goto (tgt := 39) hx hb dX0_hasN_35 (by decide) ?_
          exact W.zret (v := (1 : Int32)) hx hb hr (nb_01 (Or.inr rfl)) (fun t ht hW => ⟨⟨(1 : Int32), (), rfl, by rw [fX0_hasN, if_neg c_1, if_neg c_8, if_neg c_9, if_pos c_12], trivial⟩, hS.F ht⟩) hS.2.2 dX0_hasN_39
        · -- not taken
          refine lv_iload_n hx hb dX0_hasN_22 rfl (lv_at hl 0 rfl) ?_
          refine lv_bipush (v := 17) hx hb dX0_hasN_23 (by decide) ?_
          refine lv_icmp_lt (tgt := 38) hx hb dX0_hasN_25 (by decide) (fun c_13 => ?_) (fun c_13 => ?_)
          · -- taken
            refine lv_iconst (v := 0) hx hb dX0_hasN_38 (by decide) ?_
            exact W.zret (v := (0 : Int32)) hx hb hr (nb_01 (Or.inl rfl)) (fun t ht hW => ⟨⟨(0 : Int32), (), rfl, by rw [fX0_hasN, if_neg c_1, if_neg c_8, if_neg c_9, if_neg c_12, if_pos c_13], trivial⟩, hS.F ht⟩) hS.2.2 dX0_hasN_39
          · -- not taken
            refine lv_iload_n hx hb dX0_hasN_28 rfl (lv_at hl 0 rfl) ?_
            refine lv_bipush (v := 19) hx hb dX0_hasN_29 (by decide) ?_
            refine lv_icmp_gt (tgt := 38) hx hb dX0_hasN_31 (by decide) (fun c_14 => ?_) (fun c_14 => ?_)
            · -- taken
              refine lv_iconst (v := 0) hx hb dX0_hasN_38 (by decide) ?_
              exact W.zret (v := (0 : Int32)) hx hb hr (nb_01 (Or.inl rfl)) (fun t ht hW => ⟨⟨(0 : Int32), (), rfl, by rw [fX0_hasN, if_neg c_1, if_neg c_8, if_neg c_9, if_neg c_12, if_neg c_13, if_pos c_14], trivial⟩, hS.F ht⟩) hS.2.2 dX0_hasN_39
            · -- not taken
              refine lv_iconst (v := 1) hx hb dX0_hasN_34 (by decide) ?_
              refine lv_goto (tgt := 39) hx hb dX0_hasN_35 (by decide) ?_
              exact W.zret (v := (1 : Int32)) hx hb hr (nb_01 (Or.inr rfl)) (fun t ht hW => ⟨⟨(1 : Int32), (), rfl, by rw [fX0_hasN, if_neg c_1, if_neg c_8, if_neg c_9, if_neg c_12, if_neg c_13, if_neg c_14], trivial⟩, hS.F ht⟩) hS.2.2 dX0_hasN_39
set_option maxHeartbeats 4000000 in
set_option maxRecDepth 100000 in
theorem mX0_hasM (l : Launch) (sz : Nat) (p0 : Int32) : Met l yX0_hasM wsX0_hasM ({ frames := 0, cells := 0, slots := 0, locals := 0 }) (va_Pc [.int p0] (fun U => U.heap.size = sz)) (va_Qi (fun (r : Int32) (_ : Unit) => r = fX0_hasM p0) (fun _ _ => True) (fun q : Nat => sz ≤ q)) 0 0 (fun q : Nat => sz ≤ q) := by
  refine Met.ofW (cc := cX0_hasM) (maxL := 1) (ret := (some .boolean)) (by decide) rfl ?_
  intro p e s m args below meth c s₁ B hml hv
  obtain ⟨rfl, hsz⟩ := hv
  have hx := B.exec
  have hb := B.bytes
  have hr := B.returns
  have hts := atoms_spec (ws := wsX0_hasM) B.pre
  have hown : s.vm.findClass RX0 = some m.cls := findClass_of_methodNamed B.named
  have hlocks := B.notSynchronized
  subst hsz
  have hS : va_S (fun q : Nat => s.heap.size ≤ q) s.heap s.heap [] := va_S.rf
  have hl := lv_entry ([.int p0]) (n := 1) (Nat.le_of_ble_eq_true rfl)
  rw [lg_entry_eq]
  generalize (lg_sl ([.int p0]) ++ List.replicate (1 - (lg_sl ([.int p0])).length) Slot.unset).toArray = ls at hl ⊢
  have hl : lv_has ls 1 [(0, .int p0)] := hl
  refine lv_iload_n hx hb dX0_hasM_0 rfl (lv_at hl 0 rfl) ?_
  refine lv_iconst (v := 2) hx hb dX0_hasM_1 (by decide) ?_
  refine lv_icmp_eq (tgt := 28) hx hb dX0_hasM_2 (by decide) (fun c_1 => ?_) (fun c_1 => ?_)
  · -- taken
    refine lv_iconst (v := 1) hx hb dX0_hasM_28 (by decide) ?_
    refine lv_goto (tgt := 33) hx hb dX0_hasM_29 (by decide) ?_
    exact W.zret (v := (1 : Int32)) hx hb hr (nb_01 (Or.inr rfl)) (fun t ht hW => ⟨⟨(1 : Int32), (), rfl, by rw [fX0_hasM, if_pos c_1], trivial⟩, hS.F ht⟩) hS.2.2 dX0_hasM_33
  · -- not taken
    refine lv_iload_n hx hb dX0_hasM_5 rfl (lv_at hl 0 rfl) ?_
    refine lv_iconst (v := 3) hx hb dX0_hasM_6 (by decide) ?_
    refine lv_icmp_eq (tgt := 28) hx hb dX0_hasM_7 (by decide) (fun c_2 => ?_) (fun c_2 => ?_)
    · -- taken
      refine lv_iconst (v := 1) hx hb dX0_hasM_28 (by decide) ?_
      refine lv_goto (tgt := 33) hx hb dX0_hasM_29 (by decide) ?_
      exact W.zret (v := (1 : Int32)) hx hb hr (nb_01 (Or.inr rfl)) (fun t ht hW => ⟨⟨(1 : Int32), (), rfl, by rw [fX0_hasM, if_neg c_1, if_pos c_2], trivial⟩, hS.F ht⟩) hS.2.2 dX0_hasM_33
    · -- not taken
      refine lv_iload_n hx hb dX0_hasM_10 rfl (lv_at hl 0 rfl) ?_
      refine lv_bipush (v := 6) hx hb dX0_hasM_11 (by decide) ?_
      refine lv_icmp_lt (tgt := 22) hx hb dX0_hasM_13 (by decide) (fun c_3 => ?_) (fun c_3 => ?_)
      · -- taken
        refine lv_iload_n hx hb dX0_hasM_22 rfl (lv_at hl 0 rfl) ?_
        refine lv_bipush (v := 10) hx hb dX0_hasM_23 (by decide) ?_
        refine lv_icmp_ne (tgt := 32) hx hb dX0_hasM_25 (by decide) (fun c_4 => ?_) (fun c_4 => ?_)
        · -- taken
          refine lv_iconst (v := 0) hx hb dX0_hasM_32 (by decide) ?_
          exact W.zret (v := (0 : Int32)) hx hb hr (nb_01 (Or.inl rfl)) (fun t ht hW => ⟨⟨(0 : Int32), (), rfl, by rw [fX0_hasM, if_neg c_1, if_neg c_2, if_pos c_3, if_neg c_4], trivial⟩, hS.F ht⟩) hS.2.2 dX0_hasM_33
        · -- not taken
          refine lv_iconst (v := 1) hx hb dX0_hasM_28 (by decide) ?_
          refine lv_goto (tgt := 33) hx hb dX0_hasM_29 (by decide) ?_
          exact W.zret (v := (1 : Int32)) hx hb hr (nb_01 (Or.inr rfl)) (fun t ht hW => ⟨⟨(1 : Int32), (), rfl, by rw [fX0_hasM, if_neg c_1, if_neg c_2, if_pos c_3, if_pos c_4], trivial⟩, hS.F ht⟩) hS.2.2 dX0_hasM_33
      · -- not taken
        refine lv_iload_n hx hb dX0_hasM_16 rfl (lv_at hl 0 rfl) ?_
        refine lv_bipush (v := 8) hx hb dX0_hasM_17 (by decide) ?_
        refine lv_icmp_le (tgt := 28) hx hb dX0_hasM_19 (by decide) (fun c_5 => ?_) (fun c_5 => ?_)
        · -- taken
          refine lv_iconst (v := 1) hx hb dX0_hasM_28 (by decide) ?_
          refine lv_goto (tgt := 33) hx hb dX0_hasM_29 (by decide) ?_
          exact W.zret (v := (1 : Int32)) hx hb hr (nb_01 (Or.inr rfl)) (fun t ht hW => ⟨⟨(1 : Int32), (), rfl, by rw [fX0_hasM, if_neg c_1, if_neg c_2, if_neg c_3, if_pos c_5], trivial⟩, hS.F ht⟩) hS.2.2 dX0_hasM_33
        · -- not taken
          refine lv_iload_n hx hb dX0_hasM_22 rfl (lv_at hl 0 rfl) ?_
          refine lv_bipush (v := 10) hx hb dX0_hasM_23 (by decide) ?_
          refine lv_icmp_ne (tgt := 32) hx hb dX0_hasM_25 (by decide) (fun c_6 => ?_) (fun c_6 => ?_)
          · -- taken
            refine lv_iconst (v := 0) hx hb dX0_hasM_32 (by decide) ?_
            exact W.zret (v := (0 : Int32)) hx hb hr (nb_01 (Or.inl rfl)) (fun t ht hW => ⟨⟨(0 : Int32), (), rfl, by rw [fX0_hasM, if_neg c_1, if_neg c_2, if_neg c_3, if_neg c_5, if_neg c_6], trivial⟩, hS.F ht⟩) hS.2.2 dX0_hasM_33
          · -- not taken
            refine lv_iconst (v := 1) hx hb dX0_hasM_28 (by decide) ?_
            refine lv_goto (tgt := 33) hx hb dX0_hasM_29 (by decide) ?_
            exact W.zret (v := (1 : Int32)) hx hb hr (nb_01 (Or.inr rfl)) (fun t ht hW => ⟨⟨(1 : Int32), (), rfl, by rw [fX0_hasM, if_neg c_1, if_neg c_2, if_neg c_3, if_neg c_5, if_pos c_6], trivial⟩, hS.F ht⟩) hS.2.2 dX0_hasM_33
set_option maxHeartbeats 4000000 in
set_option maxRecDepth 100000 in
theorem mX0_hasA (l : Launch) (sz : Nat) (p0 : Int32) : Met l yX0_hasA wsX0_hasA ({ frames := 0, cells := 0, slots := 0, locals := 0 }) (va_Pc [.int p0] (fun U => U.heap.size = sz)) (va_Qi (fun (r : Int32) (_ : Unit) => r = fX0_hasA p0) (fun _ _ => True) (fun q : Nat => sz ≤ q)) 0 0 (fun q : Nat => sz ≤ q) := by
  refine Met.ofW (cc := cX0_hasA) (maxL := 1) (ret := (some .boolean)) (by decide) rfl ?_
  intro p e s m args below meth c s₁ B hml hv
  obtain ⟨rfl, hsz⟩ := hv
  have hx := B.exec
  have hb := B.bytes
  have hr := B.returns
  have hts := atoms_spec (ws := wsX0_hasA) B.pre
  have hown : s.vm.findClass RX0 = some m.cls := findClass_of_methodNamed B.named
  have hlocks := B.notSynchronized
  subst hsz
  have hS : va_S (fun q : Nat => s.heap.size ≤ q) s.heap s.heap [] := va_S.rf
  have hl := lv_entry ([.int p0]) (n := 1) (Nat.le_of_ble_eq_true rfl)
  rw [lg_entry_eq]
  generalize (lg_sl ([.int p0]) ++ List.replicate (1 - (lg_sl ([.int p0])).length) Slot.unset).toArray = ls at hl ⊢
  have hl : lv_has ls 1 [(0, .int p0)] := hl
  refine lv_iload_n hx hb dX0_hasA_0 rfl (lv_at hl 0 rfl) ?_
  refine lv_bipush (v := 6) hx hb dX0_hasA_1 (by decide) ?_
  refine lv_icmp_eq (tgt := 12) hx hb dX0_hasA_3 (by decide) (fun c_1 => ?_) (fun c_1 => ?_)
  · -- taken
    refine lv_iconst (v := 1) hx hb dX0_hasA_12 (by decide) ?_
    refine lv_goto (tgt := 17) hx hb dX0_hasA_13 (by decide) ?_
    exact W.zret (v := (1 : Int32)) hx hb hr (nb_01 (Or.inr rfl)) (fun t ht hW => ⟨⟨(1 : Int32), (), rfl, by rw [fX0_hasA, if_pos c_1], trivial⟩, hS.F ht⟩) hS.2.2 dX0_hasA_17
  · -- not taken
    refine lv_iload_n hx hb dX0_hasA_6 rfl (lv_at hl 0 rfl) ?_
    refine lv_bipush (v := 11) hx hb dX0_hasA_7 (by decide) ?_
    refine lv_icmp_ne (tgt := 16) hx hb dX0_hasA_9 (by decide) (fun c_2 => ?_) (fun c_2 => ?_)
    · -- taken
      refine lv_iconst (v := 0) hx hb dX0_hasA_16 (by decide) ?_
      exact W.zret (v := (0 : Int32)) hx hb hr (nb_01 (Or.inl rfl)) (fun t ht hW => ⟨⟨(0 : Int32), (), rfl, by rw [fX0_hasA, if_neg c_1, if_neg c_2], trivial⟩, hS.F ht⟩) hS.2.2 dX0_hasA_17
    · -- not taken
      refine lv_iconst (v := 1) hx hb dX0_hasA_12 (by decide) ?_
      refine lv_goto (tgt := 17) hx hb dX0_hasA_13 (by decide) ?_
      exact W.zret (v := (1 : Int32)) hx hb hr (nb_01 (Or.inr rfl)) (fun t ht hW => ⟨⟨(1 : Int32), (), rfl, by rw [fX0_hasA, if_neg c_1, if_pos c_2], trivial⟩, hS.F ht⟩) hS.2.2 dX0_hasA_17
set_option maxHeartbeats 4000000 in
set_option maxRecDepth 100000 in
theorem mX0_register (l : Launch) (sz : Nat) (h0 t0 : Nat) (p0 : Int32) (p1 : Int32) : Met l yX0_register wsX0_register ({ frames := 5, cells := 0, slots := 0, locals := 111 }) (va_Pc [.ref h0, .int p0, .int p1] (fun U => U.heap.size = sz ∧ wv_rcv RX0 h0 U ∧ wv_tt t0 U)) (va_Qi (fun (r : Int32) (_ : Unit) => r = fX0_register p0 p1) (fun _ _ => True) (fun q : Nat => sz ≤ q)) 0 0 (fun q : Nat => sz ≤ q) := by
  refine Met.ofW (cc := cX0_register) (maxL := 4) (ret := (some .int)) (by decide) rfl ?_
  intro p e s m args below meth c s₁ B hml hv
  obtain ⟨rfl, hsz, hww⟩ := hv
  have hx := B.exec
  have hb := B.bytes
  have hr := B.returns
  have hts := atoms_spec (ws := wsX0_register) B.pre
  have hown : s.vm.findClass RX0 = some m.cls := findClass_of_methodNamed B.named
  have hlocks := B.notSynchronized
  subst hsz
  have hS : va_S (fun q : Nat => s.heap.size ≤ q) s.heap s.heap [] := va_S.rf
  have hl := lv_entry ([.ref h0, .int p0, .int p1]) (n := 4) (Nat.le_of_ble_eq_true rfl)
  rw [lg_entry_eq]
  generalize (lg_sl ([.ref h0, .int p0, .int p1]) ++ List.replicate (4 - (lg_sl ([.ref h0, .int p0, .int p1])).length) Slot.unset).toArray = ls at hl ⊢
  have hl : lv_has ls 4 [(0, .ref h0), (1, .int p0), (2, .int p1)] := hl
  refine lv_aload_n hx hb dX0_register_0 rfl (lv_at hl 0 rfl) ?_
  refine lv_iload_n hx hb dX0_register_1 rfl (lv_at hl 1 rfl) ?_
  refine va_calli (va_runV (As := [.int p0]) (rest := []) ⟨hx, hb, hml, hown, hts⟩ (mX0_kind l s.heap.size h0 t0 p0) (cwV 1 hts gX0_register_X0_kind rfl rfl rfl (by decide +kernel) ⟨Nat.le_of_ble_eq_true rfl, Nat.le_of_ble_eq_true rfl⟩) ⟨fb_ww, hww.1.at hS, fun U hU hW => ⟨rfl, congrArg Array.size hU, hww.1.go hS hU hW.alike, hww.2.go hS hU hW.alike⟩⟩ rfl rfl hl.1 rfl (lv_room (Nat.le_of_ble_eq_true rfl)) dX0_register_2 ⟨Nat.zero_le _, Nat.zero_le _⟩) hS (fun q _ h => Nat.le_trans hS.1 h) (fun q h => Nat.le_trans hS.1 h) (fun r_1 _ _ H_1 _ _ _ hw _ _ _ hS => ?_)
  subst hw
  refine lv_istore_n (lv' := [(3, .int (fX0_kind p0)), (0, .ref h0), (1, .int p0), (2, .int p1)]) hx hb dX0_register_5 rfl hl (by decide) rfl (fun ls hl => ?_)
  refine lv_iload_n hx hb dX0_register_6 rfl (lv_at hl 3 rfl) ?_
  by_cases c_2 : p1 = (0 : Int32)
  · refine lv_tableIn (off := 29) (tgt := 36) hx hb dX0_register_7 (by rw [c_2]; decide) (by rw [c_2]; decide) (by rw [c_2]; decide) (by decide) ?_
    refine lv_iload_n hx hb dX0_register_36 rfl (lv_at hl 0 rfl) ?_
    refine va_calli (va_runS (As := [.int (fX0_kind p0)]) (rest := []) ⟨hx, hb, hml, hown, hts⟩ (mX0_hasD l H_1.size (fX0_kind p0)) (va_cwS 1 hts gX0_register_X0_hasD rfl rfl rfl (by decide +kernel) ⟨Nat.le_of_ble_eq_true rfl, Nat.le_of_ble_eq_true rfl⟩) ⟨fb_pure, fun U hU hW => ⟨rfl, congrArg Array.size hU⟩⟩ rfl rfl hl.1 rfl (lv_room (Nat.le_of_ble_eq_true rfl)) dX0_register_37 ⟨Nat.zero_le _, Nat.zero_le _⟩) hS (fun q _ h => Nat.le_trans hS.1 h) (fun q h => Nat.le_trans hS.1 h) (fun r_3 _ _ H_3 _ _ _ hw _ _ _ hS => ?_)
    subst hw
    refine lv_if_eq (tgt := 52) hx hb dX0_register_40 (by decide) (fun c_4 => ?_) (fun c_4 => ?_)
    · -- taken
      refine lv_iconst (v := -1) hx hb dX0_register_52 (by decide) ?_
      exact W.iret (v := (-1 : Int32)) hx hb hr (fun t ht hW => ⟨⟨(-1 : Int32), (), rfl, by rw [fX0_register, if_pos c_2, if_pos c_4], trivial⟩, hS.F ht⟩) hS.2.2 dX0_register_53
    · -- not taken
      refine lv_iload_n hx hb dX0_register_43 rfl (lv_at hl 2 rfl) ?_
      refine lv_iconst (v := 0) hx hb dX0_register_44 (by decide) ?_
      refine lv_iconst (v := 5) hx hb dX0_register_45 (by decide) ?_
      refine va_calli (va_runS (As := [.int p0, .int (0 : Int32), .int (5 : Int32)]) (rest := []) ⟨hx, hb, hml, hown, hts⟩ (mX0_bits l H_3.size p0 (0 : Int32) (5 : Int32)) (va_cwS 3 hts gX0_register_X0_bits rfl rfl rfl (by decide +kernel) ⟨Nat.le_of_ble_eq_true rfl, Nat.le_of_ble_eq_true rfl⟩) ⟨fb_pure, fun U hU hW => ⟨rfl, congrArg Array.size hU⟩⟩ rfl rfl hl.1 rfl (lv_room (Nat.le_of_ble_eq_true rfl)) dX0_register_46 ⟨Nat.zero_le _, Nat.zero_le _⟩) hS (fun q _ h => Nat.le_trans hS.1 h) (fun q h => Nat.le_trans hS.1 h) (fun r_5 _ _ H_5 _ _ _ hw _ _ _ hS => ?_)
      subst hw
      refine lv_goto (tgt := 53) hx hb dX0_register_49 (by decide) ?_
      exact W.iret (v := (fX0_bits p0 (0 : Int32) (5 : Int32))) hx hb hr (fun t ht hW => ⟨⟨(fX0_bits p0 (0 : Int32) (5 : Int32)), (), rfl, by rw [fX0_register, if_pos c_2, if_neg c_4], trivial⟩, hS.F ht⟩) hS.2.2 dX0_register_53
  · -- another
    by_cases c_6 : p1 = (1 : Int32)
    · refine lv_tableIn (off := 47) (tgt := 54) hx hb dX0_register_7 (by rw [c_6]; decide) (by rw [c_6]; decide) (by rw [c_6]; decide) (by decide) ?_
      refine lv_iload_n hx hb dX0_register_54 rfl (lv_at hl 0 rfl) ?_
      refine va_calli (va_runS (As := [.int (fX0_kind p0)]) (rest := []) ⟨hx, hb, hml, hown, hts⟩ (mX0_hasN l H_1.size (fX0_kind p0)) (va_cwS 1 hts gX0_register_X0_hasN rfl rfl rfl (by decide +kernel) ⟨Nat.le_of_ble_eq_true rfl, Nat.le_of_ble_eq_true rfl⟩) ⟨fb_pure, fun U hU hW => ⟨rfl, congrArg Array.size hU⟩⟩ rfl rfl hl.1 rfl (lv_room (Nat.le_of_ble_eq_true rfl)) dX0_register_55 ⟨Nat.zero_le _, Nat.zero_le _⟩) hS (fun q _ h => Nat.le_trans hS.1 h) (fun q h => Nat.le_trans hS.1 h) (fun r_7 _ _ H_7 _ _ _ hw _ _ _ hS => ?_)
      subst hw
      refine lv_if_eq (tgt := 70) hx hb dX0_register_58 (by decide) (fun c_8 => ?_) (fun c_8 => ?_)
      · -- taken
        refine lv_iconst (v := -1) hx hb dX0_register_70 (by decide) ?_
        exact W.iret (v := (-1 : Int32)) hx hb hr (fun t ht hW => ⟨⟨(-1 : Int32), (), rfl, by rw [fX0_register, if_neg c_2, if_pos c_6, if_pos c_8], trivial⟩, hS.F ht⟩) hS.2.2 dX0_register_71
      · -- not taken
        refine lv_iload_n hx hb dX0_register_61 rfl (lv_at hl 2 rfl) ?_
        refine lv_iconst (v := 5) hx hb dX0_register_62 (by decide) ?_
        refine lv_iconst (v := 5) hx hb dX0_register_63 (by decide) ?_
        refine va_calli (va_runS (As := [.int p0, .int (5 : Int32), .int (5 : Int32)]) (rest := []) ⟨hx, hb, hml, hown, hts⟩ (mX0_bits l H_7.size p0 (5 : Int32) (5 : Int32)) (va_cwS 3 hts gX0_register_X0_bits rfl rfl rfl (by decide +kernel) ⟨Nat.le_of_ble_eq_true rfl, Nat.le_of_ble_eq_true rfl⟩) ⟨fb_pure, fun U hU hW => ⟨rfl, congrArg Array.size hU⟩⟩ rfl rfl hl.1 rfl (lv_room (Nat.le_of_ble_eq_true rfl)) dX0_register_64 ⟨Nat.zero_le _, Nat.zero_le _⟩) hS (fun q _ h => Nat.le_trans hS.1 h) (fun q h => Nat.le_trans hS.1 h) (fun r_9 _ _ H_9 _ _ _ hw _ _ _ hS => ?_)
        subst hw
        refine lv_goto (tgt := 71) hx hb dX0_register_67 (by decide) ?_
        exact W.iret (v := (fX0_bits p0 (5 : Int32) (5 : Int32))) hx hb hr (fun t ht hW => ⟨⟨(fX0_bits p0 (5 : Int32) (5 : Int32)), (), rfl, by rw [fX0_register, if_neg c_2, if_pos c_6, if_neg c_8], trivial⟩, hS.F ht⟩) hS.2.2 dX0_register_71
    · -- another
      by_cases c_10 : p1 = (2 : Int32)
      · refine lv_tableIn (off := 65) (tgt := 72) hx hb dX0_register_7 (by rw [c_10]; decide) (by rw [c_10]; decide) (by rw [c_10]; decide) (by decide) ?_
        refine lv_iload_n hx hb dX0_register_72 rfl (lv_at hl 0 rfl) ?_
        refine va_calli (va_runS (As := [.int (fX0_kind p0)]) (rest := []) ⟨hx, hb, hml, hown, hts⟩ (mX0_hasM l H_1.size (fX0_kind p0)) (va_cwS 1 hts gX0_register_X0_hasM rfl rfl rfl (by decide +kernel) ⟨Nat.le_of_ble_eq_true rfl, Nat.le_of_ble_eq_true rfl⟩) ⟨fb_pure, fun U hU hW => ⟨rfl, congrArg Array.size hU⟩⟩ rfl rfl hl.1 rfl (lv_room (Nat.le_of_ble_eq_true rfl)) dX0_register_73 ⟨Nat.zero_le _, Nat.zero_le _⟩) hS (fun q _ h => Nat.le_trans hS.1 h) (fun q h => Nat.le_trans hS.1 h) (fun r_11 _ _ H_11 _ _ _ hw _ _ _ hS => ?_)
        subst hw
        refine lv_if_eq (tgt := 89) hx hb dX0_register_76 (by decide) (fun c_12 => ?_) (fun c_12 => ?_)
        · -- taken
          refine lv_iconst (v := -1) hx hb dX0_register_89 (by decide) ?_
          exact W.iret (v := (-1 : Int32)) hx hb hr (fun t ht hW => ⟨⟨(-1 : Int32), (), rfl, by rw [fX0_register, if_neg c_2, if_neg c_6, if_pos c_10, if_pos c_12], trivial⟩, hS.F ht⟩) hS.2.2 dX0_register_90
        · -- not taken
          refine lv_iload_n hx hb dX0_register_79 rfl (lv_at hl 2 rfl) ?_
          refine lv_bipush (v := 16) hx hb dX0_register_80 (by decide) ?_
          refine lv_iconst (v := 5) hx hb dX0_register_82 (by decide) ?_
          refine va_calli (va_runS (As := [.int p0, .int (16 : Int32), .int (5 : Int32)]) (rest := []) ⟨hx, hb, hml, hown, hts⟩ (mX0_bits l H_11.size p0 (16 : Int32) (5 : Int32)) (va_cwS 3 hts gX0_register_X0_bits rfl rfl rfl (by decide +kernel) ⟨Nat.le_of_ble_eq_true rfl, Nat.le_of_ble_eq_true rfl⟩) ⟨fb_pure, fun U hU hW => ⟨rfl, congrArg Array.size hU⟩⟩ rfl rfl hl.1 rfl (lv_room (Nat.le_of_ble_eq_true rfl)) dX0_register_83 ⟨Nat.zero_le _, Nat.zero_le _⟩) hS (fun q _ h => Nat.le_trans hS.1 h) (fun q h => Nat.le_trans hS.1 h) (fun r_13 _ _ H_13 _ _ _ hw _ _ _ hS => ?_)
          subst hw
          refine lv_goto (tgt := 90) hx hb dX0_register_86 (by decide) ?_
          exact W.iret (v := (fX0_bits p0 (16 : Int32) (5 : Int32))) hx hb hr (fun t ht hW => ⟨⟨(fX0_bits p0 (16 : Int32) (5 : Int32)), (), rfl, by rw [fX0_register, if_neg c_2, if_neg c_6, if_pos c_10, if_neg c_12], trivial⟩, hS.F ht⟩) hS.2.2 dX0_register_90
      · -- another
        by_cases c_14 : p1 = (3 : Int32)
        · refine lv_tableIn (off := 84) (tgt := 91) hx hb dX0_register_7 (by rw [c_14]; decide) (by rw [c_14]; decide) (by rw [c_14]; decide) (by decide) ?_
          refine lv_iload_n hx hb dX0_register_91 rfl (lv_at hl 0 rfl) ?_
          refine va_calli (va_runS (As := [.int (fX0_kind p0)]) (rest := []) ⟨hx, hb, hml, hown, hts⟩ (mX0_hasA l H_1.size (fX0_kind p0)) (va_cwS 1 hts gX0_register_X0_hasA rfl rfl rfl (by decide +kernel) ⟨Nat.le_of_ble_eq_true rfl, Nat.le_of_ble_eq_true rfl⟩) ⟨fb_pure, fun U hU hW => ⟨rfl, congrArg Array.size hU⟩⟩ rfl rfl hl.1 rfl (lv_room (Nat.le_of_ble_eq_true rfl)) dX0_register_92 ⟨Nat.zero_le _, Nat.zero_le _⟩) hS (fun q _ h => Nat.le_trans hS.1 h) (fun q h => Nat.le_trans hS.1 h) (fun r_15 _ _ H_15 _ _ _ hw _ _ _ hS => ?_)
          subst hw
          refine lv_if_eq (tgt := 108) hx hb dX0_register_95 (by decide) (fun c_16 => ?_) (fun c_16 => ?_)
          · -- taken
            refine lv_iconst (v := -1) hx hb dX0_register_108 (by decide) ?_
            exact W.iret (v := (-1 : Int32)) hx hb hr (fun t ht hW => ⟨⟨(-1 : Int32), (), rfl, by rw [fX0_register, if_neg c_2, if_neg c_6, if_neg c_10, if_pos c_14, if_pos c_16], trivial⟩, hS.F ht⟩) hS.2.2 dX0_register_109
          · -- not taken
            refine lv_iload_n hx hb dX0_register_98 rfl (lv_at hl 2 rfl) ?_
            refine lv_bipush (v := 10) hx hb dX0_register_99 (by decide) ?_
            refine lv_iconst (v := 5) hx hb dX0_register_101 (by decide) ?_
            refine va_calli (va_runS (As := [.int p0, .int (10 : Int32), .int (5 : Int32)]) (rest := []) ⟨hx, hb, hml, hown, hts⟩ (mX0_bits l H_15.size p0 (10 : Int32) (5 : Int32)) (va_cwS 3 hts gX0_register_X0_bits rfl rfl rfl (by decide +kernel) ⟨Nat.le_of_ble_eq_true rfl, Nat.le_of_ble_eq_true rfl⟩) ⟨fb_pure, fun U hU hW => ⟨rfl, congrArg Array.size hU⟩⟩ rfl rfl hl.1 rfl (lv_room (Nat.le_of_ble_eq_true rfl)) dX0_register_102 ⟨Nat.zero_le _, Nat.zero_le _⟩) hS (fun q _ h => Nat.le_trans hS.1 h) (fun q h => Nat.le_trans hS.1 h) (fun r_17 _ _ H_17 _ _ _ hw _ _ _ hS => ?_)
            subst hw
            refine lv_goto (tgt := 109) hx hb dX0_register_105 (by decide) ?_
            exact W.iret (v := (fX0_bits p0 (10 : Int32) (5 : Int32))) hx hb hr (fun t ht hW => ⟨⟨(fX0_bits p0 (10 : Int32) (5 : Int32)), (), rfl, by rw [fX0_register, if_neg c_2, if_neg c_6, if_neg c_10, if_pos c_14, if_neg c_16], trivial⟩, hS.F ht⟩) hS.2.2 dX0_register_109
        · -- another
          refine sw_def (tgt := 110) hx hb dX0_register_7 (by decide) (fun k hk => by
              have e_0 := lv_neT c_2 (a := 0) (by decide); have e_1 := lv_neT c_6 (a := 1) (by decide); have e_2 := lv_neT c_10 (a := 2) (by decide); have e_3 := lv_neT c_14 (a := 3) (by decide)
              rcases (show k = 0 ∨ k = 1 ∨ k = 2 ∨ k = 3 from by have hk9 : k < 4 := hk; omega) with rfl | rfl | rfl | rfl <;> first | exact Or.inl rfl | exact Or.inr (by omega)) (by decide) ?_
          refine lv_iconst (v := -1) hx hb dX0_register_110 (by decide) ?_
          exact W.iret (v := (-1 : Int32)) hx hb hr (fun t ht hW => ⟨⟨(-1 : Int32), (), rfl, by rw [fX0_register, if_neg c_2, if_neg c_6, if_neg c_10, if_neg c_14], trivial⟩, hS.F ht⟩) hS.2.2 dX0_register_111
end
section
set_option maxHeartbeats 4000000 in
set_option maxRecDepth 100000 in
theorem mX1_bits (l : Launch) (sz : Nat) (p0 : Int32) (p1 : Int32) (p2 : Int32) : Met l yX1_bits wsX1_bits ({ frames := 0, cells := 0, slots := 0, locals := 0 }) (va_Pc [.int p0, .int p1, .int p2] (fun U => U.heap.size = sz)) (va_Qi (fun (r : Int32) (_ : Unit) => r = fX1_bits p0 p1 p2) (fun _ _ => True) (fun q : Nat => sz ≤ q)) 0 0 (fun q : Nat => sz ≤ q) := by
  refine Met.ofW (cc := cX1_bits) (maxL := 3) (ret := (some .int)) (by decide) rfl ?_
  intro p e s m args below meth c s₁ B hml hv
  obtain ⟨rfl, hsz⟩ := hv
  have hx := B.exec
  have hb := B.bytes
  have hr := B.returns
  have hts := atoms_spec (ws := wsX1_bits) B.pre
  have hown : s.vm.findClass RX1 = some m.cls := findClass_of_methodNamed B.named
  have hlocks := B.notSynchronized
  subst hsz
  have hS : va_S (fun q : Nat => s.heap.size ≤ q) s.heap s.heap [] := va_S.rf
  have hl := lv_entry ([.int p0, .int p1, .int p2]) (n := 3) (Nat.le_of_ble_eq_true rfl)
  rw [lg_entry_eq]
  generalize (lg_sl ([.int p0, .int p1, .int p2]) ++ List.replicate (3 - (lg_sl ([.int p0, .int p1, .int p2])).length) Slot.unset).toArray = ls at hl ⊢
  have hl : lv_has ls 3 [(0, .int p0), (1, .int p1), (2, .int p2)] := hl
  refine lv_iload_n hx hb dX1_bits_0 rfl (lv_at hl 0 rfl) ?_
  refine lv_bipush (v := 31) hx hb dX1_bits_1 (by decide) ?_
  refine lv_iload_n hx hb dX1_bits_3 rfl (lv_at hl 2 rfl) ?_
  refine lv_isub hx hb dX1_bits_4 ?_
  refine lv_ishl hx hb dX1_bits_5 ?_
  refine lv_bipush (v := 31) hx hb dX1_bits_6 (by decide) ?_
  refine lv_iload_n hx hb dX1_bits_8 rfl (lv_at hl 2 rfl) ?_
  refine lv_isub hx hb dX1_bits_9 ?_
  refine lv_iload_n hx hb dX1_bits_10 rfl (lv_at hl 1 rfl) ?_
  refine lv_iadd hx hb dX1_bits_11 ?_
  refine lv_iushr hx hb dX1_bits_12 rfl ?_
  exact W.iret (v := ((((p0 <<< (((31 : Int32) - p2) &&& 31))).toUInt32 >>> (((((31 : Int32) - p2) + p1)).toUInt32 &&& Int32.toUInt32 31)).toInt32)) hx hb hr (fun t ht hW => ⟨⟨((((p0 <<< (((31 : Int32) - p2) &&& 31))).toUInt32 >>> (((((31 : Int32) - p2) + p1)).toUInt32 &&& Int32.toUInt32 31)).toInt32), (), rfl, by rw [fX1_bits], trivial⟩, hS.F ht⟩) hS.2.2 dX1_bits_13
set_option maxHeartbeats 4000000 in
set_option maxRecDepth 100000 in
theorem mX1_signed (l : Launch) (sz : Nat) (p0 : Int32) (p1 : Int32) (p2 : Int32) : Met l yX1_signed wsX1_signed ({ frames := 0, cells := 0, slots := 0, locals := 0 }) (va_Pc [.int p0, .int p1, .int p2] (fun U => U.heap.size = sz)) (va_Qi (fun (r : Int32) (_ : Unit) => r = fX1_signed p0 p1 p2) (fun _ _ => True) (fun q : Nat => sz ≤ q)) 0 0 (fun q : Nat => sz ≤ q) := by
  refine Met.ofW (cc := cX1_signed) (maxL := 3) (ret := (some .int)) (by decide) rfl ?_
  intro p e s m args below meth c s₁ B hml hv
  obtain ⟨rfl, hsz⟩ := hv
  have hx := B.exec
  have hb := B.bytes
  have hr := B.returns
  have hts := atoms_spec (ws := wsX1_signed) B.pre
  have hown : s.vm.findClass RX1 = some m.cls := findClass_of_methodNamed B.named
  have hlocks := B.notSynchronized
  subst hsz
  have hS : va_S (fun q : Nat => s.heap.size ≤ q) s.heap s.heap [] := va_S.rf
  have hl := lv_entry ([.int p0, .int p1, .int p2]) (n := 3) (Nat.le_of_ble_eq_true rfl)
  rw [lg_entry_eq]
  generalize (lg_sl ([.int p0, .int p1, .int p2]) ++ List.replicate (3 - (lg_sl ([.int p0, .int p1, .int p2])).length) Slot.unset).toArray = ls at hl ⊢
  have hl : lv_has ls 3 [(0, .int p0), (1, .int p1), (2, .int p2)] := hl
  refine lv_iload_n hx hb dX1_signed_0 rfl (lv_at hl 0 rfl) ?_
  refine lv_bipush (v := 31) hx hb dX1_signed_1 (by decide) ?_
  refine lv_iload_n hx hb dX1_signed_3 rfl (lv_at hl 2 rfl) ?_
  refine lv_isub hx hb dX1_signed_4 ?_
  refine lv_ishl hx hb dX1_signed_5 ?_
  refine lv_bipush (v := 31) hx hb dX1_signed_6 (by decide) ?_
  refine lv_iload_n hx hb dX1_signed_8 rfl (lv_at hl 2 rfl) ?_
  refine lv_isub hx hb dX1_signed_9 ?_
  refine lv_iload_n hx hb dX1_signed_10 rfl (lv_at hl 1 rfl) ?_
  refine lv_iadd hx hb dX1_signed_11 ?_
  refine lv_ishr hx hb dX1_signed_12 ?_
  exact W.iret (v := ((p0 <<< (((31 : Int32) - p2) &&& 31)) >>> ((((31 : Int32) - p2) + p1) &&& 31))) hx hb hr (fun t ht hW => ⟨⟨((p0 <<< (((31 : Int32) - p2) &&& 31)) >>> ((((31 : Int32) - p2) + p1) &&& 31)), (), rfl, by rw [fX1_signed], trivial⟩, hS.F ht⟩) hS.2.2 dX1_signed_13
set_option maxHeartbeats 4000000 in
set_option maxRecDepth 100000 in
theorem mX1_isPair (l : Launch) (sz : Nat) (p0 : Int32) : Met l yX1_isPair wsX1_isPair ({ frames := 1, cells := 0, slots := 0, locals := 22 }) (va_Pc [.int p0] (fun U => U.heap.size = sz)) (va_Qi (fun (r : Int32) (_ : Unit) => r = fX1_isPair p0) (fun _ _ => True) (fun q : Nat => sz ≤ q)) 0 0 (fun q : Nat => sz ≤ q) := by
  refine Met.ofW (cc := cX1_isPair) (maxL := 4) (ret := (some .boolean)) (by decide) rfl ?_
  intro p e s m args below meth c s₁ B hml hv
  obtain ⟨rfl, hsz⟩ := hv
  have hx := B.exec
  have hb := B.bytes
  have hr := B.returns
  have hts := atoms_spec (ws := wsX1_isPair) B.pre
  have hown : s.vm.findClass RX1 = some m.cls := findClass_of_methodNamed B.named
  have hlocks := B.notSynchronized
  subst hsz
  have hS : va_S (fun q : Nat => s.heap.size ≤ q) s.heap s.heap [] := va_S.rf
  have hl := lv_entry ([.int p0]) (n := 4) (Nat.le_of_ble_eq_true rfl)
  rw [lg_entry_eq]
  generalize (lg_sl ([.int p0]) ++ List.replicate (4 - (lg_sl ([.int p0])).length) Slot.unset).toArray = ls at hl ⊢
  have hl : lv_has ls 4 [(0, .int p0)] := hl
  refine lv_iload_n hx hb dX1_isPair_0 rfl (lv_at hl 0 rfl) ?_
  refine lv_bipush (v := 23) hx hb dX1_isPair_1 (by decide) ?_
  refine lv_bipush (v := 24) hx hb dX1_isPair_3 (by decide) ?_
  refine va_calli (va_runS (As := [.int p0, .int (23 : Int32), .int (24 : Int32)]) (rest := []) ⟨hx, hb, hml, hown, hts⟩ (mX1_bits l s.heap.size p0 (23 : Int32) (24 : Int32)) (va_cwS 3 hts gX1_isPair_X1_bits rfl rfl rfl (by decide +kernel) ⟨Nat.le_of_ble_eq_true rfl, Nat.le_of_ble_eq_true rfl⟩) ⟨fb_pure, fun U hU hW => ⟨rfl, congrArg Array.size hU⟩⟩ rfl rfl hl.1 rfl (lv_room (Nat.le_of_ble_eq_true rfl)) dX1_isPair_5 ⟨Nat.zero_le _, Nat.zero_le _⟩) hS (fun q _ h => Nat.le_trans hS.1 h) (fun q h => Nat.le_trans hS.1 h) (fun r_1 _ _ H_1 _ _ _ hw _ _ _ hS => ?_)
  subst hw
  refine lv_istore_n (lv' := [(1, .int (fX1_bits p0 (23 : Int32) (24 : Int32))), (0, .int p0)]) hx hb dX1_isPair_8 rfl hl (by decide) rfl (fun ls hl => ?_)
  refine lv_iload_n hx hb dX1_isPair_9 rfl (lv_at hl 1 rfl) ?_
  refine lv_iconst (v := 5) hx hb dX1_isPair_10 (by decide) ?_
  refine lv_bipush (v := 9) hx hb dX1_isPair_11 (by decide) ?_
  refine va_calli (va_runS (As := [.int p0, .int (5 : Int32), .int (9 : Int32)]) (rest := []) ⟨hx, hb, hml, hown, hts⟩ (mX1_bits l H_1.size p0 (5 : Int32) (9 : Int32)) (va_cwS 3 hts gX1_isPair_X1_bits rfl rfl rfl (by decide +kernel) ⟨Nat.le_of_ble_eq_true rfl, Nat.le_of_ble_eq_true rfl⟩) ⟨fb_pure, fun U hU hW => ⟨rfl, congrArg Array.size hU⟩⟩ rfl rfl hl.1 rfl (lv_room (Nat.le_of_ble_eq_true rfl)) dX1_isPair_13 ⟨Nat.zero_le _, Nat.zero_le _⟩) hS (fun q _ h => Nat.le_trans hS.1 h) (fun q h => Nat.le_trans hS.1 h) (fun r_2 _ _ H_2 _ _ _ hw _ _ _ hS => ?_)
  subst hw
  refine lv_istore_n (lv' := [(2, .int (fX1_bits p0 (5 : Int32) (9 : Int32))), (1, .int (fX1_bits p0 (23 : Int32) (24 : Int32))), (0, .int p0)]) hx hb dX1_isPair_16 rfl hl (by decide) rfl (fun ls hl => ?_)
  refine lv_iload_n hx hb dX1_isPair_17 rfl (lv_at hl 1 rfl) ?_
  refine lv_iconst (v := 2) hx hb dX1_isPair_18 (by decide) ?_
  refine lv_icmp_eq (tgt := 32) hx hb dX1_isPair_19 (by decide) (fun c_3 => ?_) (fun c_3 => ?_)
  · -- taken
    refine lv_iconst (v := 0) hx hb dX1_isPair_32 (by decide) ?_
    refine lv_istore_n (lv' := [(3, .int (0 : Int32)), (2, .int (fX1_bits p0 (5 : Int32) (9 : Int32))), (1, .int (fX1_bits p0 (23 : Int32) (24 : Int32))), (0, .int p0)]) hx hb dX1_isPair_33 rfl hl (by decide) rfl (fun ls hl => ?_)
    refine lv_iload_n hx hb dX1_isPair_34 rfl (lv_at hl 2 rfl) ?_
    refine lv_if_eq (tgt := 64) hx hb dX1_isPair_35 (by decide) (fun c_4 => ?_) (fun c_4 => ?_)
    · -- taken
      refine lv_iconst (v := 0) hx hb dX1_isPair_64 (by decide) ?_
      exact W.zret (v := (0 : Int32)) hx hb hr (nb_01 (Or.inl rfl)) (fun t ht hW => ⟨⟨(0 : Int32), (), rfl, by rw [fX1_isPair, if_pos c_3, if_pos c_4], trivial⟩, hS.F ht⟩) hS.2.2 dX1_isPair_65
    · -- not taken
      refine lv_iload_n hx hb dX1_isPair_38 rfl (lv_at hl 0 rfl) ?_
      refine lv_if_eq (tgt := 66) hx hb dX1_isPair_39 (by decide) (fun _ => ?_) (fun c => absurd c (by decide))
      refine lv_iload_n hx hb dX1_isPair_66 rfl (lv_at hl 3 rfl) ?_
      refine lv_bipush (v := 22) hx hb dX1_isPair_67 (by decide) ?_
      refine lv_bipush (v := 22) hx hb dX1_isPair_69 (by decide) ?_
      refine va_calli (va_runS (As := [.int p0, .int (22 : Int32), .int (22 : Int32)]) (rest := []) ⟨hx, hb, hml, hown, hts⟩ (mX1_bits l H_2.size p0 (22 : Int32) (22 : Int32)) (va_cwS 3 hts gX1_isPair_X1_bits rfl rfl rfl (by decide +kernel) ⟨Nat.le_of_ble_eq_true rfl, Nat.le_of_ble_eq_true rfl⟩) ⟨fb_pure, fun U hU hW => ⟨rfl, congrArg Array.size hU⟩⟩ rfl rfl hl.1 rfl (lv_room (Nat.le_of_ble_eq_true rfl)) dX1_isPair_71 ⟨Nat.zero_le _, Nat.zero_le _⟩) hS (fun q _ h => Nat.le_trans hS.1 h) (fun q h => Nat.le_trans hS.1 h) (fun r_5 _ _ H_5 _ _ _ hw _ _ _ hS => ?_)
      subst hw
      refine lv_if_eq (tgt := 94) hx hb dX1_isPair_74 (by decide) (fun c_6 => ?_) (fun c_6 => ?_)
      · -- taken
        refine lv_iconst (v := 1) hx hb dX1_isPair_94 (by decide) ?_
        refine lv_goto (tgt := 99) hx hb dX1_isPair_95 (by decide) ?_
        exact W.zret (v := (1 : Int32)) hx hb hr (nb_01 (Or.inr rfl)) (fun t ht hW => ⟨⟨(1 : Int32), (), rfl, by rw [fX1_isPair, if_pos c_3, if_neg c_4, if_pos c_6], trivial⟩, hS.F ht⟩) hS.2.2 dX1_isPair_99
      · -- not taken
        refine lv_iload_n hx hb dX1_isPair_77 rfl (lv_at hl 3 rfl) ?_
        refine lv_iconst (v := 0) hx hb dX1_isPair_78 (by decide) ?_
        refine lv_iconst (v := 4) hx hb dX1_isPair_79 (by decide) ?_
        refine va_calli (va_runS (As := [.int p0, .int (0 : Int32), .int (4 : Int32)]) (rest := []) ⟨hx, hb, hml, hown, hts⟩ (mX1_bits l H_5.size p0 (0 : Int32) (4 : Int32)) (va_cwS 3 hts gX1_isPair_X1_bits rfl rfl rfl (by decide +kernel) ⟨Nat.le_of_ble_eq_true rfl, Nat.le_of_ble_eq_true rfl⟩) ⟨fb_pure, fun U hU hW => ⟨rfl, congrArg Array.size hU⟩⟩ rfl rfl hl.1 rfl (lv_room (Nat.le_of_ble_eq_true rfl)) dX1_isPair_80 ⟨Nat.zero_le _, Nat.zero_le _⟩) hS (fun q _ h => Nat.le_trans hS.1 h) (fun q h => Nat.le_trans hS.1 h) (fun r_7 _ _ H_7 _ _ _ hw _ _ _ hS => ?_)
        subst hw
        refine lv_iload_n hx hb dX1_isPair_83 rfl (lv_at hl 3 rfl) ?_
        refine lv_bipush (v := 10) hx hb dX1_isPair_84 (by decide) ?_
        refine lv_bipush (v := 14) hx hb dX1_isPair_86 (by decide) ?_
        refine va_calli (va_runS (As := [.int p0, .int (10 : Int32), .int (14 : Int32)]) (rest := [.int (fX1_bits p0 (0 : Int32) (4 : Int32))]) ⟨hx, hb, hml, hown, hts⟩ (mX1_bits l H_7.size p0 (10 : Int32) (14 : Int32)) (va_cwS 3 hts gX1_isPair_X1_bits rfl rfl rfl (by decide +kernel) ⟨Nat.le_of_ble_eq_true rfl, Nat.le_of_ble_eq_true rfl⟩) ⟨fb_pure, fun U hU hW => ⟨rfl, congrArg Array.size hU⟩⟩ rfl rfl hl.1 rfl (lv_room (Nat.le_of_ble_eq_true rfl)) dX1_isPair_88 ⟨Nat.zero_le _, Nat.zero_le _⟩) hS (fun q _ h => Nat.le_trans hS.1 h) (fun q h => Nat.le_trans hS.1 h) (fun r_8 _ _ H_8 _ _ _ hw _ _ _ hS => ?_)
        subst hw
        refine lv_icmp_eq (tgt := 98) hx hb dX1_isPair_91 (by decide) (fun c_9 => ?_) (fun c_9 => ?_)
        · -- taken
          refine lv_iconst (v := 0) hx hb dX1_isPair_98 (by decide) ?_
          exact W.zret (v := (0 : Int32)) hx hb hr (nb_01 (Or.inl rfl)) (fun t ht hW => ⟨⟨(0 : Int32), (), rfl, by rw [fX1_isPair, if_pos c_3, if_neg c_4, if_neg c_6, if_pos c_9], trivial⟩, hS.F ht⟩) hS.2.2 dX1_isPair_99
        · -- not taken
          refine lv_iconst (v := 1) hx hb dX1_isPair_94 (by decide) ?_
          refine lv_goto (tgt := 99) hx hb dX1_isPair_95 (by decide) ?_
          exact W.zret (v := (1 : Int32)) hx hb hr (nb_01 (Or.inr rfl)) (fun t ht hW => ⟨⟨(1 : Int32), (), rfl, by rw [fX1_isPair, if_pos c_3, if_neg c_4, if_neg c_6, if_neg c_9], trivial⟩, hS.F ht⟩) hS.2.2 dX1_isPair_99
  · -- not taken
    refine lv_iload_n hx hb dX1_isPair_22 rfl (lv_at hl 0 rfl) ?_
    refine lv_bipush (v := 31) hx hb dX1_isPair_23 (by decide) ?_
    refine lv_icmp_eq (tgt := 32) hx hb dX1_isPair_25 (by decide) (fun c_10 => ?_) (fun c_10 => ?_)
    · -- taken
      refine lv_iconst (v := 0) hx hb dX1_isPair_32 (by decide) ?_
      refine lv_istore_n (lv' := [(3, .int (0 : Int32)), (2, .int (fX1_bits p0 (5 : Int32) (9 : Int32))), (1, .int (fX1_bits p0 (23 : Int32) (24 : Int32))), (0, .int p0)]) hx hb dX1_isPair_33 rfl hl (by decide) rfl (fun ls hl => ?_)
      refine lv_iload_n hx hb dX1_isPair_34 rfl (lv_at hl 2 rfl) ?_
      refine lv_if_eq (tgt := 64) hx hb dX1_isPair_35 (by decide) (fun c_11 => ?_) (fun c_11 => ?_)
      · -- taken
        refine lv_iconst (v := 0) hx hb dX1_isPair_64 (by decide) ?_
        exact W.zret (v := (0 : Int32)) hx hb hr (nb_01 (Or.inl rfl)) (fun t ht hW => ⟨⟨(0 : Int32), (), rfl, by rw [fX1_isPair, if_neg c_3, if_pos c_10, if_pos c_11], trivial⟩, hS.F ht⟩) hS.2.2 dX1_isPair_65
      · -- not taken
        refine lv_iload_n hx hb dX1_isPair_38 rfl (lv_at hl 0 rfl) ?_
        refine lv_if_eq (tgt := 66) hx hb dX1_isPair_39 (by decide) (fun _ => ?_) (fun c => absurd c (by decide))
        refine lv_iload_n hx hb dX1_isPair_66 rfl (lv_at hl 3 rfl) ?_
        refine lv_bipush (v := 22) hx hb dX1_isPair_67 (by decide) ?_
        refine lv_bipush (v := 22) hx hb dX1_isPair_69 (by decide) ?_
        refine va_calli (va_runS (As := [.int p0, .int (22 : Int32), .int (22 : Int32)]) (rest := []) ⟨hx, hb, hml, hown, hts⟩ (mX1_bits l H_2.size p0 (22 : Int32) (22 : Int32)) (va_cwS 3 hts gX1_isPair_X1_bits rfl rfl rfl (by decide +kernel) ⟨Nat.le_of_ble_eq_true rfl, Nat.le_of_ble_eq_true rfl⟩) ⟨fb_pure, fun U hU hW => ⟨rfl, congrArg Array.size hU⟩⟩ rfl rfl hl.1 rfl (lv_room (Nat.le_of_ble_eq_true rfl)) dX1_isPair_71 ⟨Nat.zero_le _, Nat.zero_le _⟩) hS (fun q _ h => Nat.le_trans hS.1 h) (fun q h => Nat.le_trans hS.1 h) (fun r_12 _ _ H_12 _ _ _ hw _ _ _ hS => ?_)
        subst hw
        refine lv_if_eq (tgt := 94) hx hb dX1_isPair_74 (by decide) (fun c_13 => ?_) (fun c_13 => ?_)
        · -- taken
          refine lv_iconst (v := 1) hx hb dX1_isPair_94 (by decide) ?_
          refine lv_goto (tgt := 99) hx hb dX1_isPair_95 (by decide) ?_
          exact W.zret (v := (1 : Int32)) hx hb hr (nb_01 (Or.inr rfl)) (fun t ht hW => ⟨⟨(1 : Int32), (), rfl, by rw [fX1_isPair, if_neg c_3, if_pos c_10, if_neg c_11, if_pos c_13], trivial⟩, hS.F ht⟩) hS.2.2 dX1_isPair_99
        · -- not taken
          refine lv_iload_n hx hb dX1_isPair_77 rfl (lv_at hl 3 rfl) ?_
          refine lv_iconst (v := 0) hx hb dX1_isPair_78 (by decide) ?_
          refine lv_iconst (v := 4) hx hb dX1_isPair_79 (by decide) ?_
          refine va_calli (va_runS (As := [.int p0, .int (0 : Int32), .int (4 : Int32)]) (rest := []) ⟨hx, hb, hml, hown, hts⟩ (mX1_bits l H_12.size p0 (0 : Int32) (4 : Int32)) (va_cwS 3 hts gX1_isPair_X1_bits rfl rfl rfl (by decide +kernel) ⟨Nat.le_of_ble_eq_true rfl, Nat.le_of_ble_eq_true rfl⟩) ⟨fb_pure, fun U hU hW => ⟨rfl, congrArg Array.size hU⟩⟩ rfl rfl hl.1 rfl (lv_room (Nat.le_of_ble_eq_true rfl)) dX1_isPair_80 ⟨Nat.zero_le _, Nat.zero_le _⟩) hS (fun q _ h => Nat.le_trans hS.1 h) (fun q h => Nat.le_trans hS.1 h) (fun r_14 _ _ H_14 _ _ _ hw _ _ _ hS => ?_)
          subst hw
          refine lv_iload_n hx hb dX1_isPair_83 rfl (lv_at hl 3 rfl) ?_
          refine lv_bipush (v := 10) hx hb dX1_isPair_84 (by decide) ?_
          refine lv_bipush (v := 14) hx hb dX1_isPair_86 (by decide) ?_
          refine va_calli (va_runS (As := [.int p0, .int (10 : Int32), .int (14 : Int32)]) (rest := [.int (fX1_bits p0 (0 : Int32) (4 : Int32))]) ⟨hx, hb, hml, hown, hts⟩ (mX1_bits l H_14.size p0 (10 : Int32) (14 : Int32)) (va_cwS 3 hts gX1_isPair_X1_bits rfl rfl rfl (by decide +kernel) ⟨Nat.le_of_ble_eq_true rfl, Nat.le_of_ble_eq_true rfl⟩) ⟨fb_pure, fun U hU hW => ⟨rfl, congrArg Array.size hU⟩⟩ rfl rfl hl.1 rfl (lv_room (Nat.le_of_ble_eq_true rfl)) dX1_isPair_88 ⟨Nat.zero_le _, Nat.zero_le _⟩) hS (fun q _ h => Nat.le_trans hS.1 h) (fun q h => Nat.le_trans hS.1 h) (fun r_15 _ _ H_15 _ _ _ hw _ _ _ hS => ?_)
          subst hw
          refine lv_icmp_eq (tgt := 98) hx hb dX1_isPair_91 (by decide) (fun c_16 => ?_) (fun c_16 => ?_)
          · -- taken
            refine lv_iconst (v := 0) hx hb dX1_isPair_98 (by decide) ?_
            exact W.zret (v := (0 : Int32)) hx hb hr (nb_01 (Or.inl rfl)) (fun t ht hW => ⟨⟨(0 : Int32), (), rfl, by rw [fX1_isPair, if_neg c_3, if_pos c_10, if_neg c_11, if_neg c_13, if_pos c_16], trivial⟩, hS.F ht⟩) hS.2.2 dX1_isPair_99
          · -- not taken
            refine lv_iconst (v := 1) hx hb dX1_isPair_94 (by decide) ?_
            refine lv_goto (tgt := 99) hx hb dX1_isPair_95 (by decide) ?_
            exact W.zret (v := (1 : Int32)) hx hb hr (nb_01 (Or.inr rfl)) (fun t ht hW => ⟨⟨(1 : Int32), (), rfl, by rw [fX1_isPair, if_neg c_3, if_pos c_10, if_neg c_11, if_neg c_13, if_neg c_16], trivial⟩, hS.F ht⟩) hS.2.2 dX1_isPair_99
    · -- not taken
      refine lv_iconst (v := 1) hx hb dX1_isPair_28 (by decide) ?_
      refine lv_goto (tgt := 33) hx hb dX1_isPair_29 (by decide) ?_
      refine lv_istore_n (lv' := [(3, .int (1 : Int32)), (2, .int (fX1_bits p0 (5 : Int32) (9 : Int32))), (1, .int (fX1_bits p0 (23 : Int32) (24 : Int32))), (0, .int p0)]) hx hb dX1_isPair_33 rfl hl (by decide) rfl (fun ls hl => ?_)
      refine lv_iload_n hx hb dX1_isPair_34 rfl (lv_at hl 2 rfl) ?_
      refine lv_if_eq (tgt := 64) hx hb dX1_isPair_35 (by decide) (fun c_17 => ?_) (fun c_17 => ?_)
      · -- taken
        refine lv_iconst (v := 0) hx hb dX1_isPair_64 (by decide) ?_
        exact W.zret (v := (0 : Int32)) hx hb hr (nb_01 (Or.inl rfl)) (fun t ht hW => ⟨⟨(0 : Int32), (), rfl, by rw [fX1_isPair, if_neg c_3, if_neg c_10, if_pos c_17], trivial⟩, hS.F ht⟩) hS.2.2 dX1_isPair_65
      · -- not taken
        refine lv_iload_n hx hb dX1_isPair_38 rfl (lv_at hl 0 rfl) ?_
        refine lv_if_eq (tgt := 66) hx hb dX1_isPair_39 (by decide) (fun c => absurd c (by decide)) (fun _ => ?_)
        refine lv_iload_n hx hb dX1_isPair_42 rfl (lv_at hl 1 rfl) ?_
        refine lv_iload_n hx hb dX1_isPair_43 rfl (lv_at hl 3 rfl) ?_
        refine lv_iconst (v := 0) hx hb dX1_isPair_44 (by decide) ?_
        refine lv_iconst (v := 4) hx hb dX1_isPair_45 (by decide) ?_
        refine va_calli (va_runS (As := [.int p0, .int (0 : Int32), .int (4 : Int32)]) (rest := [.int (fX1_bits p0 (5 : Int32) (9 : Int32))]) ⟨hx, hb, hml, hown, hts⟩ (mX1_bits l H_2.size p0 (0 : Int32) (4 : Int32)) (va_cwS 3 hts gX1_isPair_X1_bits rfl rfl rfl (by decide +kernel) ⟨Nat.le_of_ble_eq_true rfl, Nat.le_of_ble_eq_true rfl⟩) ⟨fb_pure, fun U hU hW => ⟨rfl, congrArg Array.size hU⟩⟩ rfl rfl hl.1 rfl (lv_room (Nat.le_of_ble_eq_true rfl)) dX1_isPair_46 ⟨Nat.zero_le _, Nat.zero_le _⟩) hS (fun q _ h => Nat.le_trans hS.1 h) (fun q h => Nat.le_trans hS.1 h) (fun r_18 _ _ H_18 _ _ _ hw _ _ _ hS => ?_)
        subst hw
        refine lv_icmp_eq (tgt := 64) hx hb dX1_isPair_49 (by decide) (fun c_19 => ?_) (fun c_19 => ?_)
        · -- taken
          refine lv_iconst (v := 0) hx hb dX1_isPair_64 (by decide) ?_
          exact W.zret (v := (0 : Int32)) hx hb hr (nb_01 (Or.inl rfl)) (fun t ht hW => ⟨⟨(0 : Int32), (), rfl, by rw [fX1_isPair, if_neg c_3, if_neg c_10, if_neg c_17, if_pos c_19], trivial⟩, hS.F ht⟩) hS.2.2 dX1_isPair_65
        · -- not taken
          refine lv_iload_n hx hb dX1_isPair_52 rfl (lv_at hl 1 rfl) ?_
          refine lv_iload_n hx hb dX1_isPair_53 rfl (lv_at hl 3 rfl) ?_
          refine lv_bipush (v := 10) hx hb dX1_isPair_54 (by decide) ?_
          refine lv_bipush (v := 14) hx hb dX1_isPair_56 (by decide) ?_
          refine va_calli (va_runS (As := [.int p0, .int (10 : Int32), .int (14 : Int32)]) (rest := [.int (fX1_bits p0 (5 : Int32) (9 : Int32))]) ⟨hx, hb, hml, hown, hts⟩ (mX1_bits l H_18.size p0 (10 : Int32) (14 : Int32)) (va_cwS 3 hts gX1_isPair_X1_bits rfl rfl rfl (by decide +kernel) ⟨Nat.le_of_ble_eq_true rfl, Nat.le_of_ble_eq_true rfl⟩) ⟨fb_pure, fun U hU hW => ⟨rfl, congrArg Array.size hU⟩⟩ rfl rfl hl.1 rfl (lv_room (Nat.le_of_ble_eq_true rfl)) dX1_isPair_58 ⟨Nat.zero_le _, Nat.zero_le _⟩) hS (fun q _ h => Nat.le_trans hS.1 h) (fun q h => Nat.le_trans hS.1 h) (fun r_20 _ _ H_20 _ _ _ hw _ _ _ hS => ?_)
          subst hw
          refine lv_icmp_ne (tgt := 66) hx hb dX1_isPair_61 (by decide) (fun c_21 => ?_) (fun c_21 => ?_)
          · -- taken
            refine lv_iload_n hx hb dX1_isPair_66 rfl (lv_at hl 3 rfl) ?_
            refine lv_bipush (v := 22) hx hb dX1_isPair_67 (by decide) ?_
            refine lv_bipush (v := 22) hx hb dX1_isPair_69 (by decide) ?_
            refine va_calli (va_runS (As := [.int p0, .int (22 : Int32), .int (22 : Int32)]) (rest := []) ⟨hx, hb, hml, hown, hts⟩ (mX1_bits l H_20.size p0 (22 : Int32) (22 : Int32)) (va_cwS 3 hts gX1_isPair_X1_bits rfl rfl rfl (by decide +kernel) ⟨Nat.le_of_ble_eq_true rfl, Nat.le_of_ble_eq_true rfl⟩) ⟨fb_pure, fun U hU hW => ⟨rfl, congrArg Array.size hU⟩⟩ rfl rfl hl.1 rfl (lv_room (Nat.le_of_ble_eq_true rfl)) dX1_isPair_71 ⟨Nat.zero_le _, Nat.zero_le _⟩) hS (fun q _ h => Nat.le_trans hS.1 h) (fun q h => Nat.le_trans hS.1 h) (fun r_22 _ _ H_22 _ _ _ hw _ _ _ hS => ?_)
            subst hw
            refine lv_if_eq (tgt := 94) hx hb dX1_isPair_74 (by decide) (fun c_23 => ?_) (fun c_23 => ?_)
            · -- taken
              refine lv_iconst (v := 1) hx hb dX1_isPair_94 (by decide) ?_
              refine lv_goto (tgt := 99) hx hb dX1_isPair_95 (by decide) ?_
              exact W.zret (v := (1 : Int32)) hx hb hr (nb_01 (Or.inr rfl)) (fun t ht hW => ⟨⟨(1 : Int32), (), rfl, by rw [fX1_isPair, if_neg c_3, if_neg c_10, if_neg c_17, if_neg c_19, if_neg c_21, if_pos c_23], trivial⟩, hS.F ht⟩) hS.2.2 dX1_isPair_99
            · -- not taken
              refine lv_iload_n hx hb dX1_isPair_77 rfl (lv_at hl 3 rfl) ?_
              refine lv_iconst (v := 0) hx hb dX1_isPair_78 (by decide) ?_
              refine lv_iconst (v := 4) hx hb dX1_isPair_79 (by decide) ?_
              refine va_calli (va_runS (As := [.int p0, .int (0 : Int32), .int (4 : Int32)]) (rest := []) ⟨hx, hb, hml, hown, hts⟩ (mX1_bits l H_22.size p0 (0 : Int32) (4 : Int32)) (va_cwS 3 hts gX1_isPair_X1_bits rfl rfl rfl (by decide +kernel) ⟨Nat.le_of_ble_eq_true rfl, Nat.le_of_ble_eq_true rfl⟩) ⟨fb_pure, fun U hU hW => ⟨rfl, congrArg Array.size hU⟩⟩ rfl rfl hl.1 rfl (lv_room (Nat.le_of_ble_eq_true rfl)) dX1_isPair_80 ⟨Nat.zero_le _, Nat.zero_le _⟩) hS (fun q _ h => Nat.le_trans hS.1 h) (fun q h => Nat.le_trans hS.1 h) (fun r_24 _ _ H_24 _ _ _ hw _ _ _ hS => ?_)
              subst hw
              refine lv_iload_n hx hb dX1_isPair_83 rfl (lv_at hl 3 rfl) ?_
              refine lv_bipush (v := 10) hx hb dX1_isPair_84 (by decide) ?_
              refine lv_bipush (v := 14) hx hb dX1_isPair_86 (by decide) ?_
              refine va_calli (va_runS (As := [.int p0, .int (10 : Int32), .int (14 : Int32)]) (rest := [.int (fX1_bits p0 (0 : Int32) (4 : Int32))]) ⟨hx, hb, hml, hown, hts⟩ (mX1_bits l H_24.size p0 (10 : Int32) (14 : Int32)) (va_cwS 3 hts gX1_isPair_X1_bits rfl rfl rfl (by decide +kernel) ⟨Nat.le_of_ble_eq_true rfl, Nat.le_of_ble_eq_true rfl⟩) ⟨fb_pure, fun U hU hW => ⟨rfl, congrArg Array.size hU⟩⟩ rfl rfl hl.1 rfl (lv_room (Nat.le_of_ble_eq_true rfl)) dX1_isPair_88 ⟨Nat.zero_le _, Nat.zero_le _⟩) hS (fun q _ h => Nat.le_trans hS.1 h) (fun q h => Nat.le_trans hS.1 h) (fun r_25 _ _ H_25 _ _ _ hw _ _ _ hS => ?_)
              subst hw
              refine lv_icmp_eq (tgt := 98) hx hb dX1_isPair_91 (by decide) (fun c_26 => ?_) (fun c_26 => ?_)
              · -- taken
                refine lv_iconst (v := 0) hx hb dX1_isPair_98 (by decide) ?_
                exact W.zret (v := (0 : Int32)) hx hb hr (nb_01 (Or.inl rfl)) (fun t ht hW => ⟨⟨(0 : Int32), (), rfl, by rw [fX1_isPair, if_neg c_3, if_neg c_10, if_neg c_17, if_neg c_19, if_neg c_21, if_neg c_23, if_pos c_26], trivial⟩, hS.F ht⟩) hS.2.2 dX1_isPair_99
              · -- not taken
                refine lv_iconst (v := 1) hx hb dX1_isPair_94 (by decide) ?_
                refine lv_goto (tgt := 99) hx hb dX1_isPair_95 (by decide) ?_
                exact W.zret (v := (1 : Int32)) hx hb hr (nb_01 (Or.inr rfl)) (fun t ht hW => ⟨⟨(1 : Int32), (), rfl, by rw [fX1_isPair, if_neg c_3, if_neg c_10, if_neg c_17, if_neg c_19, if_neg c_21, if_neg c_23, if_neg c_26], trivial⟩, hS.F ht⟩) hS.2.2 dX1_isPair_99
          · -- not taken
            refine lv_iconst (v := 0) hx hb dX1_isPair_64 (by decide) ?_
            exact W.zret (v := (0 : Int32)) hx hb hr (nb_01 (Or.inl rfl)) (fun t ht hW => ⟨⟨(0 : Int32), (), rfl, by rw [fX1_isPair, if_neg c_3, if_neg c_10, if_neg c_17, if_neg c_19, if_pos c_21], trivial⟩, hS.F ht⟩) hS.2.2 dX1_isPair_65
set_option maxHeartbeats 4000000 in
set_option maxRecDepth 100000 in
theorem mX1_isMoved (l : Launch) (sz : Nat) (p0 : Int32) : Met l yX1_isMoved wsX1_isMoved ({ frames := 1, cells := 0, slots := 0, locals := 22 }) (va_Pc [.int p0] (fun U => U.heap.size = sz)) (va_Qi (fun (r : Int32) (_ : Unit) => r = fX1_isMoved p0) (fun _ _ => True) (fun q : Nat => sz ≤ q)) 0 0 (fun q : Nat => sz ≤ q) := by
  refine Met.ofW (cc := cX1_isMoved) (maxL := 1) (ret := (some .boolean)) (by decide) rfl ?_
  intro p e s m args below meth c s₁ B hml hv
  obtain ⟨rfl, hsz⟩ := hv
  have hx := B.exec
  have hb := B.bytes
  have hr := B.returns
  have hts := atoms_spec (ws := wsX1_isMoved) B.pre
  have hown : s.vm.findClass RX1 = some m.cls := findClass_of_methodNamed B.named
  have hlocks := B.notSynchronized
  subst hsz
  have hS : va_S (fun q : Nat => s.heap.size ≤ q) s.heap s.heap [] := va_S.rf
  have hl := lv_entry ([.int p0]) (n := 1) (Nat.le_of_ble_eq_true rfl)
  rw [lg_entry_eq]
  generalize (lg_sl ([.int p0]) ++ List.replicate (1 - (lg_sl ([.int p0])).length) Slot.unset).toArray = ls at hl ⊢
  have hl : lv_has ls 1 [(0, .int p0)] := hl
  refine lv_iload_n hx hb dX1_isMoved_0 rfl (lv_at hl 0 rfl) ?_
  refine lv_if_lt (tgt := 15) hx hb dX1_isMoved_1 (by decide) (fun c_1 => ?_) (fun c_1 => ?_)
  · -- taken
    refine lv_iconst (v := 1) hx hb dX1_isMoved_15 (by decide) ?_
    refine lv_goto (tgt := 20) hx hb dX1_isMoved_16 (by decide) ?_
    exact W.zret (v := (1 : Int32)) hx hb hr (nb_01 (Or.inr rfl)) (fun t ht hW => ⟨⟨(1 : Int32), (), rfl, by rw [fX1_isMoved, if_pos c_1], trivial⟩, hS.F ht⟩) hS.2.2 dX1_isMoved_20
  · -- not taken
    refine lv_iload_n hx hb dX1_isMoved_4 rfl (lv_at hl 0 rfl) ?_
    refine lv_bipush (v := 15) hx hb dX1_isMoved_5 (by decide) ?_
    refine lv_bipush (v := 15) hx hb dX1_isMoved_7 (by decide) ?_
    refine va_calli (va_runS (As := [.int p0, .int (15 : Int32), .int (15 : Int32)]) (rest := []) ⟨hx, hb, hml, hown, hts⟩ (mX1_bits l s.heap.size p0 (15 : Int32) (15 : Int32)) (va_cwS 3 hts gX1_isMoved_X1_bits rfl rfl rfl (by decide +kernel) ⟨Nat.le_of_ble_eq_true rfl, Nat.le_of_ble_eq_true rfl⟩) ⟨fb_pure, fun U hU hW => ⟨rfl, congrArg Array.size hU⟩⟩ rfl rfl hl.1 rfl (lv_room (Nat.le_of_ble_eq_true rfl)) dX1_isMoved_9 ⟨Nat.zero_le _, Nat.zero_le _⟩) hS (fun q _ h => Nat.le_trans hS.1 h) (fun q h => Nat.le_trans hS.1 h) (fun r_2 _ _ H_2 _ _ _ hw _ _ _ hS => ?_)
    subst hw
    refine lv_if_ne (tgt := 19) hx hb dX1_isMoved_12 (by decide) (fun c_3 => ?_) (fun c_3 => ?_)
    · -- taken
      refine lv_iconst (v := 0) hx hb dX1_isMoved_19 (by decide) ?_
      exact W.zret (v := (0 : Int32)) hx hb hr (nb_01 (Or.inl rfl)) (fun t ht hW => ⟨⟨(0 : Int32), (), rfl, by rw [fX1_isMoved, if_neg c_1, if_neg c_3], trivial⟩, hS.F ht⟩) hS.2.2 dX1_isMoved_20
    · -- not taken
      refine lv_iconst (v := 1) hx hb dX1_isMoved_15 (by decide) ?_
      refine lv_goto (tgt := 20) hx hb dX1_isMoved_16 (by decide) ?_
      exact W.zret (v := (1 : Int32)) hx hb hr (nb_01 (Or.inr rfl)) (fun t ht hW => ⟨⟨(1 : Int32), (), rfl, by rw [fX1_isMoved, if_neg c_1, if_pos c_3], trivial⟩, hS.F ht⟩) hS.2.2 dX1_isMoved_20
set_option maxHeartbeats 4000000 in
set_option maxRecDepth 100000 in
theorem mX1_isByRegister (l : Launch) (sz : Nat) (p0 : Int32) : Met l yX1_isByRegister wsX1_isByRegister ({ frames := 1, cells := 0, slots := 0, locals := 22 }) (va_Pc [.int p0] (fun U => U.heap.size = sz)) (va_Qi (fun (r : Int32) (_ : Unit) => r = fX1_isByRegister p0) (fun _ _ => True) (fun q : Nat => sz ≤ q)) 0 0 (fun q : Nat => sz ≤ q) := by
  refine Met.ofW (cc := cX1_isByRegister) (maxL := 1) (ret := (some .boolean)) (by decide) rfl ?_
  intro p e s m args below meth c s₁ B hml hv
  obtain ⟨rfl, hsz⟩ := hv
  have hx := B.exec
  have hb := B.bytes
  have hr := B.returns
  have hts := atoms_spec (ws := wsX1_isByRegister) B.pre
  have hown : s.vm.findClass RX1 = some m.cls := findClass_of_methodNamed B.named
  have hlocks := B.notSynchronized
  subst hsz
  have hS : va_S (fun q : Nat => s.heap.size ≤ q) s.heap s.heap [] := va_S.rf
  have hl := lv_entry ([.int p0]) (n := 1) (Nat.le_of_ble_eq_true rfl)
  rw [lg_entry_eq]
  generalize (lg_sl ([.int p0]) ++ List.replicate (1 - (lg_sl ([.int p0])).length) Slot.unset).toArray = ls at hl ⊢
  have hl : lv_has ls 1 [(0, .int p0)] := hl
  refine lv_iload_n hx hb dX1_isByRegister_0 rfl (lv_at hl 0 rfl) ?_
  refine lv_bipush (v := 21) hx hb dX1_isByRegister_1 (by decide) ?_
  refine lv_bipush (v := 21) hx hb dX1_isByRegister_3 (by decide) ?_
  refine va_calli (va_runS (As := [.int p0, .int (21 : Int32), .int (21 : Int32)]) (rest := []) ⟨hx, hb, hml, hown, hts⟩ (mX1_bits l s.heap.size p0 (21 : Int32) (21 : Int32)) (va_cwS 3 hts gX1_isByRegister_X1_bits rfl rfl rfl (by decide +kernel) ⟨Nat.le_of_ble_eq_true rfl, Nat.le_of_ble_eq_true rfl⟩) ⟨fb_pure, fun U hU hW => ⟨rfl, congrArg Array.size hU⟩⟩ rfl rfl hl.1 rfl (lv_room (Nat.le_of_ble_eq_true rfl)) dX1_isByRegister_5 ⟨Nat.zero_le _, Nat.zero_le _⟩) hS (fun q _ h => Nat.le_trans hS.1 h) (fun q h => Nat.le_trans hS.1 h) (fun r_1 _ _ H_1 _ _ _ hw _ _ _ hS => ?_)
  subst hw
  refine lv_iconst (v := 1) hx hb dX1_isByRegister_8 (by decide) ?_
  refine lv_icmp_ne (tgt := 40) hx hb dX1_isByRegister_9 (by decide) (fun c_2 => ?_) (fun c_2 => ?_)
  · -- taken
    refine lv_iconst (v := 0) hx hb dX1_isByRegister_40 (by decide) ?_
    exact W.zret (v := (0 : Int32)) hx hb hr (nb_01 (Or.inl rfl)) (fun t ht hW => ⟨⟨(0 : Int32), (), rfl, by rw [fX1_isByRegister, if_neg c_2], trivial⟩, hS.F ht⟩) hS.2.2 dX1_isByRegister_41
  · -- not taken
    refine lv_iload_n hx hb dX1_isByRegister_12 rfl (lv_at hl 0 rfl) ?_
    refine lv_bipush (v := 13) hx hb dX1_isByRegister_13 (by decide) ?_
    refine lv_bipush (v := 15) hx hb dX1_isByRegister_15 (by decide) ?_
    refine va_calli (va_runS (As := [.int p0, .int (13 : Int32), .int (15 : Int32)]) (rest := []) ⟨hx, hb, hml, hown, hts⟩ (mX1_bits l H_1.size p0 (13 : Int32) (15 : Int32)) (va_cwS 3 hts gX1_isByRegister_X1_bits rfl rfl rfl (by decide +kernel) ⟨Nat.le_of_ble_eq_true rfl, Nat.le_of_ble_eq_true rfl⟩) ⟨fb_pure, fun U hU hW => ⟨rfl, congrArg Array.size hU⟩⟩ rfl rfl hl.1 rfl (lv_room (Nat.le_of_ble_eq_true rfl)) dX1_isByRegister_17 ⟨Nat.zero_le _, Nat.zero_le _⟩) hS (fun q _ h => Nat.le_trans hS.1 h) (fun q h => Nat.le_trans hS.1 h) (fun r_3 _ _ H_3 _ _ _ hw _ _ _ hS => ?_)
    subst hw
    refine lv_iconst (v := 3) hx hb dX1_isByRegister_20 (by decide) ?_
    refine lv_icmp_ne (tgt := 40) hx hb dX1_isByRegister_21 (by decide) (fun c_4 => ?_) (fun c_4 => ?_)
    · -- taken
      refine lv_iconst (v := 0) hx hb dX1_isByRegister_40 (by decide) ?_
      exact W.zret (v := (0 : Int32)) hx hb hr (nb_01 (Or.inl rfl)) (fun t ht hW => ⟨⟨(0 : Int32), (), rfl, by rw [fX1_isByRegister, if_pos c_2, if_neg c_4], trivial⟩, hS.F ht⟩) hS.2.2 dX1_isByRegister_41
    · -- not taken
      refine lv_iload_n hx hb dX1_isByRegister_24 rfl (lv_at hl 0 rfl) ?_
      refine lv_bipush (v := 10) hx hb dX1_isByRegister_25 (by decide) ?_
      refine lv_bipush (v := 11) hx hb dX1_isByRegister_27 (by decide) ?_
      refine va_calli (va_runS (As := [.int p0, .int (10 : Int32), .int (11 : Int32)]) (rest := []) ⟨hx, hb, hml, hown, hts⟩ (mX1_bits l H_3.size p0 (10 : Int32) (11 : Int32)) (va_cwS 3 hts gX1_isByRegister_X1_bits rfl rfl rfl (by decide +kernel) ⟨Nat.le_of_ble_eq_true rfl, Nat.le_of_ble_eq_true rfl⟩) ⟨fb_pure, fun U hU hW => ⟨rfl, congrArg Array.size hU⟩⟩ rfl rfl hl.1 rfl (lv_room (Nat.le_of_ble_eq_true rfl)) dX1_isByRegister_29 ⟨Nat.zero_le _, Nat.zero_le _⟩) hS (fun q _ h => Nat.le_trans hS.1 h) (fun q h => Nat.le_trans hS.1 h) (fun r_5 _ _ H_5 _ _ _ hw _ _ _ hS => ?_)
      subst hw
      refine lv_iconst (v := 2) hx hb dX1_isByRegister_32 (by decide) ?_
      refine lv_icmp_ne (tgt := 40) hx hb dX1_isByRegister_33 (by decide) (fun c_6 => ?_) (fun c_6 => ?_)
      · -- taken
        refine lv_iconst (v := 0) hx hb dX1_isByRegister_40 (by decide) ?_
        exact W.zret (v := (0 : Int32)) hx hb hr (nb_01 (Or.inl rfl)) (fun t ht hW => ⟨⟨(0 : Int32), (), rfl, by rw [fX1_isByRegister, if_pos c_2, if_pos c_4, if_neg c_6], trivial⟩, hS.F ht⟩) hS.2.2 dX1_isByRegister_41
      · -- not taken
        refine lv_iconst (v := 1) hx hb dX1_isByRegister_36 (by decide) ?_
        refine lv_goto (tgt := 41) hx hb dX1_isByRegister_37 (by decide) ?_
        exact W.zret (v := (1 : Int32)) hx hb hr (nb_01 (Or.inr rfl)) (fun t ht hW => ⟨⟨(1 : Int32), (), rfl, by rw [fX1_isByRegister, if_pos c_2, if_pos c_4, if_pos c_6], trivial⟩, hS.F ht⟩) hS.2.2 dX1_isByRegister_41
set_option maxHeartbeats 4000000 in
set_option maxRecDepth 100000 in
theorem mX1_isSize (l : Launch) (sz : Nat) (p0 : Int32) : Met l yX1_isSize wsX1_isSize ({ frames := 1, cells := 0, slots := 0, locals := 22 }) (va_Pc [.int p0] (fun U => U.heap.size = sz)) (va_Qi (fun (r : Int32) (_ : Unit) => r = fX1_isSize p0) (fun _ _ => True) (fun q : Nat => sz ≤ q)) 0 0 (fun q : Nat => sz ≤ q) := by
  refine Met.ofW (cc := cX1_isSize) (maxL := 3) (ret := (some .boolean)) (by decide) rfl ?_
  intro p e s m args below meth c s₁ B hml hv
  obtain ⟨rfl, hsz⟩ := hv
  have hx := B.exec
  have hb := B.bytes
  have hr := B.returns
  have hts := atoms_spec (ws := wsX1_isSize) B.pre
  have hown : s.vm.findClass RX1 = some m.cls := findClass_of_methodNamed B.named
  have hlocks := B.notSynchronized
  subst hsz
  have hS : va_S (fun q : Nat => s.heap.size ≤ q) s.heap s.heap [] := va_S.rf
  have hl := lv_entry ([.int p0]) (n := 3) (Nat.le_of_ble_eq_true rfl)
  rw [lg_entry_eq]
  generalize (lg_sl ([.int p0]) ++ List.replicate (3 - (lg_sl ([.int p0])).length) Slot.unset).toArray = ls at hl ⊢
  have hl : lv_has ls 3 [(0, .int p0)] := hl
  refine lv_iload_n hx hb dX1_isSize_0 rfl (lv_at hl 0 rfl) ?_
  refine lv_bipush (v := 30) hx hb dX1_isSize_1 (by decide) ?_
  refine lv_bipush (v := 31) hx hb dX1_isSize_3 (by decide) ?_
  refine va_calli (va_runS (As := [.int p0, .int (30 : Int32), .int (31 : Int32)]) (rest := []) ⟨hx, hb, hml, hown, hts⟩ (mX1_bits l s.heap.size p0 (30 : Int32) (31 : Int32)) (va_cwS 3 hts gX1_isSize_X1_bits rfl rfl rfl (by decide +kernel) ⟨Nat.le_of_ble_eq_true rfl, Nat.le_of_ble_eq_true rfl⟩) ⟨fb_pure, fun U hU hW => ⟨rfl, congrArg Array.size hU⟩⟩ rfl rfl hl.1 rfl (lv_room (Nat.le_of_ble_eq_true rfl)) dX1_isSize_5 ⟨Nat.zero_le _, Nat.zero_le _⟩) hS (fun q _ h => Nat.le_trans hS.1 h) (fun q h => Nat.le_trans hS.1 h) (fun r_1 _ _ H_1 _ _ _ hw _ _ _ hS => ?_)
  subst hw
  refine lv_istore_n (lv' := [(1, .int (fX1_bits p0 (30 : Int32) (31 : Int32))), (0, .int p0)]) hx hb dX1_isSize_8 rfl hl (by decide) rfl (fun ls hl => ?_)
  refine lv_iload_n hx hb dX1_isSize_9 rfl (lv_at hl 1 rfl) ?_
  refine lv_bipush (v := 22) hx hb dX1_isSize_10 (by decide) ?_
  refine lv_bipush (v := 23) hx hb dX1_isSize_12 (by decide) ?_
  refine va_calli (va_runS (As := [.int p0, .int (22 : Int32), .int (23 : Int32)]) (rest := []) ⟨hx, hb, hml, hown, hts⟩ (mX1_bits l H_1.size p0 (22 : Int32) (23 : Int32)) (va_cwS 3 hts gX1_isSize_X1_bits rfl rfl rfl (by decide +kernel) ⟨Nat.le_of_ble_eq_true rfl, Nat.le_of_ble_eq_true rfl⟩) ⟨fb_pure, fun U hU hW => ⟨rfl, congrArg Array.size hU⟩⟩ rfl rfl hl.1 rfl (lv_room (Nat.le_of_ble_eq_true rfl)) dX1_isSize_14 ⟨Nat.zero_le _, Nat.zero_le _⟩) hS (fun q _ h => Nat.le_trans hS.1 h) (fun q h => Nat.le_trans hS.1 h) (fun r_2 _ _ H_2 _ _ _ hw _ _ _ hS => ?_)
  subst hw
  refine lv_istore_n (lv' := [(2, .int (fX1_bits p0 (22 : Int32) (23 : Int32))), (1, .int (fX1_bits p0 (30 : Int32) (31 : Int32))), (0, .int p0)]) hx hb dX1_isSize_17 rfl hl (by decide) rfl (fun ls hl => ?_)
  refine lv_iload_n hx hb dX1_isSize_18 rfl (lv_at hl 1 rfl) ?_
  refine lv_iconst (v := 1) hx hb dX1_isSize_19 (by decide) ?_
  refine lv_icmp_eq (tgt := 42) hx hb dX1_isSize_20 (by decide) (fun c_3 => ?_) (fun c_3 => ?_)
  · -- taken
    refine lv_iconst (v := 0) hx hb dX1_isSize_42 (by decide) ?_
    exact W.zret (v := (0 : Int32)) hx hb hr (nb_01 (Or.inl rfl)) (fun t ht hW => ⟨⟨(0 : Int32), (), rfl, by rw [fX1_isSize, if_pos c_3], trivial⟩, hS.F ht⟩) hS.2.2 dX1_isSize_43
  · -- not taken
    refine lv_iload_n hx hb dX1_isSize_23 rfl (lv_at hl 0 rfl) ?_
    refine lv_iconst (v := 2) hx hb dX1_isSize_24 (by decide) ?_
    refine lv_icmp_lt (tgt := 38) hx hb dX1_isSize_25 (by decide) (fun c_4 => ?_) (fun c_4 => ?_)
    · -- taken
      refine lv_iconst (v := 1) hx hb dX1_isSize_38 (by decide) ?_
      refine lv_goto (tgt := 43) hx hb dX1_isSize_39 (by decide) ?_
      exact W.zret (v := (1 : Int32)) hx hb hr (nb_01 (Or.inr rfl)) (fun t ht hW => ⟨⟨(1 : Int32), (), rfl, by rw [fX1_isSize, if_neg c_3, if_pos c_4], trivial⟩, hS.F ht⟩) hS.2.2 dX1_isSize_43
    · -- not taken
      refine lv_iload_n hx hb dX1_isSize_28 rfl (lv_at hl 0 rfl) ?_
      refine lv_iconst (v := 2) hx hb dX1_isSize_29 (by decide) ?_
      refine lv_icmp_ne (tgt := 42) hx hb dX1_isSize_30 (by decide) (fun c_5 => ?_) (fun c_5 => ?_)
      · -- taken
        refine lv_iconst (v := 0) hx hb dX1_isSize_42 (by decide) ?_
        exact W.zret (v := (0 : Int32)) hx hb hr (nb_01 (Or.inl rfl)) (fun t ht hW => ⟨⟨(0 : Int32), (), rfl, by rw [fX1_isSize, if_neg c_3, if_neg c_4, if_neg c_5], trivial⟩, hS.F ht⟩) hS.2.2 dX1_isSize_43
      · -- not taken
        refine lv_iload_n hx hb dX1_isSize_33 rfl (lv_at hl 1 rfl) ?_
        refine lv_iconst (v := 2) hx hb dX1_isSize_34 (by decide) ?_
        refine lv_icmp_ne (tgt := 42) hx hb dX1_isSize_35 (by decide) (fun c_6 => ?_) (fun c_6 => ?_)
        · -- taken
          refine lv_iconst (v := 0) hx hb dX1_isSize_42 (by decide) ?_
          exact W.zret (v := (0 : Int32)) hx hb hr (nb_01 (Or.inl rfl)) (fun t ht hW => ⟨⟨(0 : Int32), (), rfl, by rw [fX1_isSize, if_neg c_3, if_neg c_4, if_pos c_5, if_neg c_6], trivial⟩, hS.F ht⟩) hS.2.2 dX1_isSize_43
        · -- not taken
          refine lv_iconst (v := 1) hx hb dX1_isSize_38 (by decide) ?_
          refine lv_goto (tgt := 43) hx hb dX1_isSize_39 (by decide) ?_
          exact W.zret (v := (1 : Int32)) hx hb hr (nb_01 (Or.inr rfl)) (fun t ht hW => ⟨⟨(1 : Int32), (), rfl, by rw [fX1_isSize, if_neg c_3, if_neg c_4, if_pos c_5, if_pos c_6], trivial⟩, hS.F ht⟩) hS.2.2 dX1_isSize_43
set_option maxHeartbeats 4000000 in
set_option maxRecDepth 100000 in
theorem mX1_inTwo (l : Launch) (sz : Nat) (p0 : Int32) : Met l yX1_inTwo wsX1_inTwo ({ frames := 1, cells := 0, slots := 0, locals := 22 }) (va_Pc [.int p0] (fun U => U.heap.size = sz)) (va_Qi (fun (r : Int32) (_ : Unit) => r = fX1_inTwo p0) (fun _ _ => True) (fun q : Nat => sz ≤ q)) 0 0 (fun q : Nat => sz ≤ q) := by
  refine Met.ofW (cc := cX1_inTwo) (maxL := 4) (ret := (some .int)) (by decide) rfl ?_
  intro p e s m args below meth c s₁ B hml hv
  obtain ⟨rfl, hsz⟩ := hv
  have hx := B.exec
  have hb := B.bytes
  have hr := B.returns
  have hts := atoms_spec (ws := wsX1_inTwo) B.pre
  have hown : s.vm.findClass RX1 = some m.cls := findClass_of_methodNamed B.named
  have hlocks := B.notSynchronized
  subst hsz
  have hS : va_S (fun q : Nat => s.heap.size ≤ q) s.heap s.heap [] := va_S.rf
  have hl := lv_entry ([.int p0]) (n := 4) (Nat.le_of_ble_eq_true rfl)
  rw [lg_entry_eq]
  generalize (lg_sl ([.int p0]) ++ List.replicate (4 - (lg_sl ([.int p0])).length) Slot.unset).toArray = ls at hl ⊢
  have hl : lv_has ls 4 [(0, .int p0)] := hl
  refine lv_iload_n hx hb dX1_inTwo_0 rfl (lv_at hl 0 rfl) ?_
  refine lv_bipush (v := 21) hx hb dX1_inTwo_1 (by decide) ?_
  refine lv_bipush (v := 23) hx hb dX1_inTwo_3 (by decide) ?_
  refine va_calli (va_runS (As := [.int p0, .int (21 : Int32), .int (23 : Int32)]) (rest := []) ⟨hx, hb, hml, hown, hts⟩ (mX1_bits l s.heap.size p0 (21 : Int32) (23 : Int32)) (va_cwS 3 hts gX1_inTwo_X1_bits rfl rfl rfl (by decide +kernel) ⟨Nat.le_of_ble_eq_true rfl, Nat.le_of_ble_eq_true rfl⟩) ⟨fb_pure, fun U hU hW => ⟨rfl, congrArg Array.size hU⟩⟩ rfl rfl hl.1 rfl (lv_room (Nat.le_of_ble_eq_true rfl)) dX1_inTwo_5 ⟨Nat.zero_le _, Nat.zero_le _⟩) hS (fun q _ h => Nat.le_trans hS.1 h) (fun q h => Nat.le_trans hS.1 h) (fun r_1 _ _ H_1 _ _ _ hw _ _ _ hS => ?_)
  subst hw
  refine lv_istore_n (lv' := [(1, .int (fX1_bits p0 (21 : Int32) (23 : Int32))), (0, .int p0)]) hx hb dX1_inTwo_8 rfl hl (by decide) rfl (fun ls hl => ?_)
  refine lv_iload_n hx hb dX1_inTwo_9 rfl (lv_at hl 1 rfl) ?_
  refine lv_bipush (v := 10) hx hb dX1_inTwo_10 (by decide) ?_
  refine lv_bipush (v := 15) hx hb dX1_inTwo_12 (by decide) ?_
  refine va_calli (va_runS (As := [.int p0, .int (10 : Int32), .int (15 : Int32)]) (rest := []) ⟨hx, hb, hml, hown, hts⟩ (mX1_bits l H_1.size p0 (10 : Int32) (15 : Int32)) (va_cwS 3 hts gX1_inTwo_X1_bits rfl rfl rfl (by decide +kernel) ⟨Nat.le_of_ble_eq_true rfl, Nat.le_of_ble_eq_true rfl⟩) ⟨fb_pure, fun U hU hW => ⟨rfl, congrArg Array.size hU⟩⟩ rfl rfl hl.1 rfl (lv_room (Nat.le_of_ble_eq_true rfl)) dX1_inTwo_14 ⟨Nat.zero_le _, Nat.zero_le _⟩) hS (fun q _ h => Nat.le_trans hS.1 h) (fun q h => Nat.le_trans hS.1 h) (fun r_2 _ _ H_2 _ _ _ hw _ _ _ hS => ?_)
  subst hw
  refine lv_istore_n (lv' := [(2, .int (fX1_bits p0 (10 : Int32) (15 : Int32))), (1, .int (fX1_bits p0 (21 : Int32) (23 : Int32))), (0, .int p0)]) hx hb dX1_inTwo_17 rfl hl (by decide) rfl (fun ls hl => ?_)
  refine lv_iload_n hx hb dX1_inTwo_18 rfl (lv_at hl 1 rfl) ?_
  refine lv_bipush (v := 6) hx hb dX1_inTwo_19 (by decide) ?_
  refine lv_icmp_ne (tgt := 53) hx hb dX1_inTwo_21 (by decide) (fun c_3 => ?_) (fun c_3 => ?_)
  · -- taken
    refine lv_iload_n hx hb dX1_inTwo_53 rfl (lv_at hl 1 rfl) ?_
    refine lv_iconst (v := 4) hx hb dX1_inTwo_54 (by decide) ?_
    refine lv_icmp_ne (tgt := 86) hx hb dX1_inTwo_55 (by decide) (fun c_4 => ?_) (fun c_4 => ?_)
    · -- taken
      refine lv_iconst (v := 0) hx hb dX1_inTwo_86 (by decide) ?_
      refine lv_istore_n (lv' := [(3, .int (0 : Int32)), (2, .int (fX1_bits p0 (10 : Int32) (15 : Int32))), (1, .int (fX1_bits p0 (21 : Int32) (23 : Int32))), (0, .int p0)]) hx hb dX1_inTwo_87 rfl hl (by decide) rfl (fun ls hl => ?_)
      refine lv_iload_n hx hb dX1_inTwo_88 rfl (lv_at hl 0 rfl) ?_
      refine lv_if_eq (tgt := 97) hx hb dX1_inTwo_89 (by decide) (fun _ => ?_) (fun c => absurd c (by decide))
      refine lv_iconst (v := 0) hx hb dX1_inTwo_97 (by decide) ?_
      exact W.iret (v := (0 : Int32)) hx hb hr (fun t ht hW => ⟨⟨(0 : Int32), (), rfl, by rw [fX1_inTwo, if_neg c_3, if_neg c_4], trivial⟩, hS.F ht⟩) hS.2.2 dX1_inTwo_98
    · -- not taken
      refine lv_iload_n hx hb dX1_inTwo_58 rfl (lv_at hl 2 rfl) ?_
      refine lv_bipush (v := 11) hx hb dX1_inTwo_59 (by decide) ?_
      refine lv_bipush (v := 11) hx hb dX1_inTwo_61 (by decide) ?_
      refine va_calli (va_runS (As := [.int p0, .int (11 : Int32), .int (11 : Int32)]) (rest := []) ⟨hx, hb, hml, hown, hts⟩ (mX1_bits l H_2.size p0 (11 : Int32) (11 : Int32)) (va_cwS 3 hts gX1_inTwo_X1_bits rfl rfl rfl (by decide +kernel) ⟨Nat.le_of_ble_eq_true rfl, Nat.le_of_ble_eq_true rfl⟩) ⟨fb_pure, fun U hU hW => ⟨rfl, congrArg Array.size hU⟩⟩ rfl rfl hl.1 rfl (lv_room (Nat.le_of_ble_eq_true rfl)) dX1_inTwo_63 ⟨Nat.zero_le _, Nat.zero_le _⟩) hS (fun q _ h => Nat.le_trans hS.1 h) (fun q h => Nat.le_trans hS.1 h) (fun r_5 _ _ H_5 _ _ _ hw _ _ _ hS => ?_)
      subst hw
      refine lv_if_ne (tgt := 86) hx hb dX1_inTwo_66 (by decide) (fun c_6 => ?_) (fun c_6 => ?_)
      · -- taken
        refine lv_iconst (v := 0) hx hb dX1_inTwo_86 (by decide) ?_
        refine lv_istore_n (lv' := [(3, .int (0 : Int32)), (2, .int (fX1_bits p0 (10 : Int32) (15 : Int32))), (1, .int (fX1_bits p0 (21 : Int32) (23 : Int32))), (0, .int p0)]) hx hb dX1_inTwo_87 rfl hl (by decide) rfl (fun ls hl => ?_)
        refine lv_iload_n hx hb dX1_inTwo_88 rfl (lv_at hl 0 rfl) ?_
        refine lv_if_eq (tgt := 97) hx hb dX1_inTwo_89 (by decide) (fun _ => ?_) (fun c => absurd c (by decide))
        refine lv_iconst (v := 0) hx hb dX1_inTwo_97 (by decide) ?_
        exact W.iret (v := (0 : Int32)) hx hb hr (fun t ht hW => ⟨⟨(0 : Int32), (), rfl, by rw [fX1_inTwo, if_neg c_3, if_pos c_4, if_neg c_6], trivial⟩, hS.F ht⟩) hS.2.2 dX1_inTwo_98
      · -- not taken
        refine lv_iload_n hx hb dX1_inTwo_69 rfl (lv_at hl 2 rfl) ?_
        refine lv_bipush (v := 12) hx hb dX1_inTwo_70 (by decide) ?_
        refine lv_bipush (v := 15) hx hb dX1_inTwo_72 (by decide) ?_
        refine va_calli (va_runS (As := [.int p0, .int (12 : Int32), .int (15 : Int32)]) (rest := []) ⟨hx, hb, hml, hown, hts⟩ (mX1_bits l H_5.size p0 (12 : Int32) (15 : Int32)) (va_cwS 3 hts gX1_inTwo_X1_bits rfl rfl rfl (by decide +kernel) ⟨Nat.le_of_ble_eq_true rfl, Nat.le_of_ble_eq_true rfl⟩) ⟨fb_pure, fun U hU hW => ⟨rfl, congrArg Array.size hU⟩⟩ rfl rfl hl.1 rfl (lv_room (Nat.le_of_ble_eq_true rfl)) dX1_inTwo_74 ⟨Nat.zero_le _, Nat.zero_le _⟩) hS (fun q _ h => Nat.le_trans hS.1 h) (fun q h => Nat.le_trans hS.1 h) (fun r_7 _ _ H_7 _ _ _ hw _ _ _ hS => ?_)
        subst hw
        refine lv_bipush (v := 14) hx hb dX1_inTwo_77 (by decide) ?_
        refine lv_icmp_ge (tgt := 86) hx hb dX1_inTwo_79 (by decide) (fun c_8 => ?_) (fun c_8 => ?_)
        · -- taken
          refine lv_iconst (v := 0) hx hb dX1_inTwo_86 (by decide) ?_
          refine lv_istore_n (lv' := [(3, .int (0 : Int32)), (2, .int (fX1_bits p0 (10 : Int32) (15 : Int32))), (1, .int (fX1_bits p0 (21 : Int32) (23 : Int32))), (0, .int p0)]) hx hb dX1_inTwo_87 rfl hl (by decide) rfl (fun ls hl => ?_)
          refine lv_iload_n hx hb dX1_inTwo_88 rfl (lv_at hl 0 rfl) ?_
          refine lv_if_eq (tgt := 97) hx hb dX1_inTwo_89 (by decide) (fun _ => ?_) (fun c => absurd c (by decide))
          refine lv_iconst (v := 0) hx hb dX1_inTwo_97 (by decide) ?_
          exact W.iret (v := (0 : Int32)) hx hb hr (fun t ht hW => ⟨⟨(0 : Int32), (), rfl, by rw [fX1_inTwo, if_neg c_3, if_pos c_4, if_pos c_6, if_pos c_8], trivial⟩, hS.F ht⟩) hS.2.2 dX1_inTwo_98
        · -- not taken
          refine lv_iconst (v := 1) hx hb dX1_inTwo_82 (by decide) ?_
          refine lv_goto (tgt := 87) hx hb dX1_inTwo_83 (by decide) ?_
          refine lv_istore_n (lv' := [(3, .int (1 : Int32)), (2, .int (fX1_bits p0 (10 : Int32) (15 : Int32))), (1, .int (fX1_bits p0 (21 : Int32) (23 : Int32))), (0, .int p0)]) hx hb dX1_inTwo_87 rfl hl (by decide) rfl (fun ls hl => ?_)
          refine lv_iload_n hx hb dX1_inTwo_88 rfl (lv_at hl 0 rfl) ?_
          refine lv_if_eq (tgt := 97) hx hb dX1_inTwo_89 (by decide) (fun c => absurd c (by decide)) (fun _ => ?_)
          refine lv_bipush (v := 8) hx hb dX1_inTwo_92 (by decide) ?_
          refine lv_goto (tgt := 98) hx hb dX1_inTwo_94 (by decide) ?_
          exact W.iret (v := (8 : Int32)) hx hb hr (fun t ht hW => ⟨⟨(8 : Int32), (), rfl, by rw [fX1_inTwo, if_neg c_3, if_pos c_4, if_pos c_6, if_neg c_8], trivial⟩, hS.F ht⟩) hS.2.2 dX1_inTwo_98
  · -- not taken
    refine lv_iload_n hx hb dX1_inTwo_24 rfl (lv_at hl 0 rfl) ?_
    refine lv_iconst (v := 2) hx hb dX1_inTwo_25 (by decide) ?_
    refine lv_icmp_eq (tgt := 46) hx hb dX1_inTwo_26 (by decide) (fun c_9 => ?_) (fun c_9 => ?_)
    · -- taken
      refine lv_bipush (v := 7) hx hb dX1_inTwo_46 (by decide) ?_
      refine lv_goto (tgt := 52) hx hb dX1_inTwo_48 (by decide) ?_
      exact W.iret (v := (7 : Int32)) hx hb hr (fun t ht hW => ⟨⟨(7 : Int32), (), rfl, by rw [fX1_inTwo, if_pos c_3, if_pos c_9], trivial⟩, hS.F ht⟩) hS.2.2 dX1_inTwo_52
    · -- not taken
      refine lv_iload_n hx hb dX1_inTwo_29 rfl (lv_at hl 0 rfl) ?_
      refine lv_iconst (v := 3) hx hb dX1_inTwo_30 (by decide) ?_
      refine lv_icmp_eq (tgt := 46) hx hb dX1_inTwo_31 (by decide) (fun c_10 => ?_) (fun c_10 => ?_)
      · -- taken
        refine lv_bipush (v := 7) hx hb dX1_inTwo_46 (by decide) ?_
        refine lv_goto (tgt := 52) hx hb dX1_inTwo_48 (by decide) ?_
        exact W.iret (v := (7 : Int32)) hx hb hr (fun t ht hW => ⟨⟨(7 : Int32), (), rfl, by rw [fX1_inTwo, if_pos c_3, if_neg c_9, if_pos c_10], trivial⟩, hS.F ht⟩) hS.2.2 dX1_inTwo_52
      · -- not taken
        refine lv_iload_n hx hb dX1_inTwo_34 rfl (lv_at hl 0 rfl) ?_
        refine lv_bipush (v := 7) hx hb dX1_inTwo_35 (by decide) ?_
        refine lv_icmp_le (tgt := 51) hx hb dX1_inTwo_37 (by decide) (fun c_11 => ?_) (fun c_11 => ?_)
        · -- taken
          refine lv_iconst (v := 0) hx hb dX1_inTwo_51 (by decide) ?_
          exact W.iret (v := (0 : Int32)) hx hb hr (fun t ht hW => ⟨⟨(0 : Int32), (), rfl, by rw [fX1_inTwo, if_pos c_3, if_neg c_9, if_neg c_10, if_pos c_11], trivial⟩, hS.F ht⟩) hS.2.2 dX1_inTwo_52
        · -- not taken
          refine lv_iload_n hx hb dX1_inTwo_40 rfl (lv_at hl 0 rfl) ?_
          refine lv_bipush (v := 11) hx hb dX1_inTwo_41 (by decide) ?_
          refine lv_icmp_ge (tgt := 51) hx hb dX1_inTwo_43 (by decide) (fun c_12 => ?_) (fun c_12 => ?_)
          · -- taken
            refine lv_iconst (v := 0) hx hb dX1_inTwo_51 (by decide) ?_
            exact W.iret (v := (0 : Int32)) hx hb hr (fun t ht hW => ⟨⟨(0 : Int32), (), rfl, by rw [fX1_inTwo, if_pos c_3, if_neg c_9, if_neg c_10, if_neg c_11, if_pos c_12], trivial⟩, hS.F ht⟩) hS.2.2 dX1_inTwo_52
          · -- not taken
            refine lv_bipush (v := 7) hx hb dX1_inTwo_46 (by decide) ?_
            refine lv_goto (tgt := 52) hx hb dX1_inTwo_48 (by decide) ?_
            exact W.iret (v := (7 : Int32)) hx hb hr (fun t ht hW => ⟨⟨(7 : Int32), (), rfl, by rw [fX1_inTwo, if_pos c_3, if_neg c_9, if_neg c_10, if_neg c_11, if_neg c_12], trivial⟩, hS.F ht⟩) hS.2.2 dX1_inTwo_52
set_option maxHeartbeats 4000000 in
set_option maxRecDepth 100000 in
theorem mX1_goesByRegister (l : Launch) (sz : Nat) (p0 : Int32) : Met l yX1_goesByRegister wsX1_goesByRegister ({ frames := 1, cells := 0, slots := 0, locals := 22 }) (va_Pc [.int p0] (fun U => U.heap.size = sz)) (va_Qi (fun (r : Int32) (_ : Unit) => r = fX1_goesByRegister p0) (fun _ _ => True) (fun q : Nat => sz ≤ q)) 0 0 (fun q : Nat => sz ≤ q) := by
  refine Met.ofW (cc := cX1_goesByRegister) (maxL := 2) (ret := (some .int)) (by decide) rfl ?_
  intro p e s m args below meth c s₁ B hml hv
  obtain ⟨rfl, hsz⟩ := hv
  have hx := B.exec
  have hb := B.bytes
  have hr := B.returns
  have hts := atoms_spec (ws := wsX1_goesByRegister) B.pre
  have hown : s.vm.findClass RX1 = some m.cls := findClass_of_methodNamed B.named
  have hlocks := B.notSynchronized
  subst hsz
  have hS : va_S (fun q : Nat => s.heap.size ≤ q) s.heap s.heap [] := va_S.rf
  have hl := lv_entry ([.int p0]) (n := 2) (Nat.le_of_ble_eq_true rfl)
  rw [lg_entry_eq]
  generalize (lg_sl ([.int p0]) ++ List.replicate (2 - (lg_sl ([.int p0])).length) Slot.unset).toArray = ls at hl ⊢
  have hl : lv_has ls 2 [(0, .int p0)] := hl
  refine lv_iload_n hx hb dX1_goesByRegister_0 rfl (lv_at hl 0 rfl) ?_
  refine lv_iconst (v := 0) hx hb dX1_goesByRegister_1 (by decide) ?_
  refine lv_iconst (v := 4) hx hb dX1_goesByRegister_2 (by decide) ?_
  refine va_calli (va_runS (As := [.int p0, .int (0 : Int32), .int (4 : Int32)]) (rest := []) ⟨hx, hb, hml, hown, hts⟩ (mX1_bits l s.heap.size p0 (0 : Int32) (4 : Int32)) (va_cwS 3 hts gX1_goesByRegister_X1_bits rfl rfl rfl (by decide +kernel) ⟨Nat.le_of_ble_eq_true rfl, Nat.le_of_ble_eq_true rfl⟩) ⟨fb_pure, fun U hU hW => ⟨rfl, congrArg Array.size hU⟩⟩ rfl rfl hl.1 rfl (lv_room (Nat.le_of_ble_eq_true rfl)) dX1_goesByRegister_3 ⟨Nat.zero_le _, Nat.zero_le _⟩) hS (fun q _ h => Nat.le_trans hS.1 h) (fun q h => Nat.le_trans hS.1 h) (fun r_1 _ _ H_1 _ _ _ hw _ _ _ hS => ?_)
  subst hw
  refine lv_if_gt (tgt := 33) hx hb dX1_goesByRegister_6 (by decide) (fun c_2 => ?_) (fun c_2 => ?_)
  · -- taken
    refine lv_iconst (v := 0) hx hb dX1_goesByRegister_33 (by decide) ?_
    exact W.iret (v := (0 : Int32)) hx hb hr (fun t ht hW => ⟨⟨(0 : Int32), (), rfl, by rw [fX1_goesByRegister, if_pos c_2], trivial⟩, hS.F ht⟩) hS.2.2 dX1_goesByRegister_34
  · -- not taken
    refine lv_iload_n hx hb dX1_goesByRegister_9 rfl (lv_at hl 0 rfl) ?_
    refine lv_bipush (v := 10) hx hb dX1_goesByRegister_10 (by decide) ?_
    refine lv_bipush (v := 15) hx hb dX1_goesByRegister_12 (by decide) ?_
    refine va_calli (va_runS (As := [.int p0, .int (10 : Int32), .int (15 : Int32)]) (rest := []) ⟨hx, hb, hml, hown, hts⟩ (mX1_bits l H_1.size p0 (10 : Int32) (15 : Int32)) (va_cwS 3 hts gX1_goesByRegister_X1_bits rfl rfl rfl (by decide +kernel) ⟨Nat.le_of_ble_eq_true rfl, Nat.le_of_ble_eq_true rfl⟩) ⟨fb_pure, fun U hU hW => ⟨rfl, congrArg Array.size hU⟩⟩ rfl rfl hl.1 rfl (lv_room (Nat.le_of_ble_eq_true rfl)) dX1_goesByRegister_14 ⟨Nat.zero_le _, Nat.zero_le _⟩) hS (fun q _ h => Nat.le_trans hS.1 h) (fun q h => Nat.le_trans hS.1 h) (fun r_3 _ _ H_3 _ _ _ hw _ _ _ hS => ?_)
    subst hw
    refine lv_if_gt (tgt := 33) hx hb dX1_goesByRegister_17 (by decide) (fun c_4 => ?_) (fun c_4 => ?_)
    · -- taken
      refine lv_iconst (v := 0) hx hb dX1_goesByRegister_33 (by decide) ?_
      exact W.iret (v := (0 : Int32)) hx hb hr (fun t ht hW => ⟨⟨(0 : Int32), (), rfl, by rw [fX1_goesByRegister, if_neg c_2, if_pos c_4], trivial⟩, hS.F ht⟩) hS.2.2 dX1_goesByRegister_34
    · -- not taken
      refine lv_iload_n hx hb dX1_goesByRegister_20 rfl (lv_at hl 0 rfl) ?_
      refine lv_bipush (v := 16) hx hb dX1_goesByRegister_21 (by decide) ?_
      refine lv_bipush (v := 20) hx hb dX1_goesByRegister_23 (by decide) ?_
      refine va_calli (va_runS (As := [.int p0, .int (16 : Int32), .int (20 : Int32)]) (rest := []) ⟨hx, hb, hml, hown, hts⟩ (mX1_bits l H_3.size p0 (16 : Int32) (20 : Int32)) (va_cwS 3 hts gX1_goesByRegister_X1_bits rfl rfl rfl (by decide +kernel) ⟨Nat.le_of_ble_eq_true rfl, Nat.le_of_ble_eq_true rfl⟩) ⟨fb_pure, fun U hU hW => ⟨rfl, congrArg Array.size hU⟩⟩ rfl rfl hl.1 rfl (lv_room (Nat.le_of_ble_eq_true rfl)) dX1_goesByRegister_25 ⟨Nat.zero_le _, Nat.zero_le _⟩) hS (fun q _ h => Nat.le_trans hS.1 h) (fun q h => Nat.le_trans hS.1 h) (fun r_5 _ _ H_5 _ _ _ hw _ _ _ hS => ?_)
      subst hw
      refine lv_bipush (v := 31) hx hb dX1_goesByRegister_28 (by decide) ?_
      refine lv_icmp_eq (tgt := 35) hx hb dX1_goesByRegister_30 (by decide) (fun c_6 => ?_) (fun c_6 => ?_)
      · -- taken
        refine lv_iload_n hx hb dX1_goesByRegister_35 rfl (lv_at hl 0 rfl) ?_
        refine lv_bipush (v := 21) hx hb dX1_goesByRegister_36 (by decide) ?_
        refine lv_bipush (v := 23) hx hb dX1_goesByRegister_38 (by decide) ?_
        refine va_calli (va_runS (As := [.int p0, .int (21 : Int32), .int (23 : Int32)]) (rest := []) ⟨hx, hb, hml, hown, hts⟩ (mX1_bits l H_5.size p0 (21 : Int32) (23 : Int32)) (va_cwS 3 hts gX1_goesByRegister_X1_bits rfl rfl rfl (by decide +kernel) ⟨Nat.le_of_ble_eq_true rfl, Nat.le_of_ble_eq_true rfl⟩) ⟨fb_pure, fun U hU hW => ⟨rfl, congrArg Array.size hU⟩⟩ rfl rfl hl.1 rfl (lv_room (Nat.le_of_ble_eq_true rfl)) dX1_goesByRegister_40 ⟨Nat.zero_le _, Nat.zero_le _⟩) hS (fun q _ h => Nat.le_trans hS.1 h) (fun q h => Nat.le_trans hS.1 h) (fun r_7 _ _ H_7 _ _ _ hw _ _ _ hS => ?_)
        subst hw
        refine lv_istore_n (lv' := [(1, .int (fX1_bits p0 (21 : Int32) (23 : Int32))), (0, .int p0)]) hx hb dX1_goesByRegister_43 rfl hl (by decide) rfl (fun ls hl => ?_)
        refine lv_iload_n hx hb dX1_goesByRegister_44 rfl (lv_at hl 0 rfl) ?_
        refine lv_iconst (v := 3) hx hb dX1_goesByRegister_45 (by decide) ?_
        refine lv_icmp_ge (tgt := 56) hx hb dX1_goesByRegister_46 (by decide) (fun c_8 => ?_) (fun c_8 => ?_)
        · -- taken
          refine lv_iconst (v := 0) hx hb dX1_goesByRegister_56 (by decide) ?_
          exact W.iret (v := (0 : Int32)) hx hb hr (fun t ht hW => ⟨⟨(0 : Int32), (), rfl, by rw [fX1_goesByRegister, if_neg c_2, if_neg c_4, if_pos c_6, if_pos c_8], trivial⟩, hS.F ht⟩) hS.2.2 dX1_goesByRegister_57
        · -- not taken
          refine lv_bipush (v := 17) hx hb dX1_goesByRegister_49 (by decide) ?_
          refine lv_iload_n hx hb dX1_goesByRegister_51 rfl (lv_at hl 0 rfl) ?_
          refine lv_iadd hx hb dX1_goesByRegister_52 ?_
          refine lv_goto (tgt := 57) hx hb dX1_goesByRegister_53 (by decide) ?_
          exact W.iret (v := ((17 : Int32) + (fX1_bits p0 (21 : Int32) (23 : Int32)))) hx hb hr (fun t ht hW => ⟨⟨((17 : Int32) + (fX1_bits p0 (21 : Int32) (23 : Int32))), (), rfl, by rw [fX1_goesByRegister, if_neg c_2, if_neg c_4, if_pos c_6, if_neg c_8], trivial⟩, hS.F ht⟩) hS.2.2 dX1_goesByRegister_57
      · -- not taken
        refine lv_iconst (v := 0) hx hb dX1_goesByRegister_33 (by decide) ?_
        exact W.iret (v := (0 : Int32)) hx hb hr (fun t ht hW => ⟨⟨(0 : Int32), (), rfl, by rw [fX1_goesByRegister, if_neg c_2, if_neg c_4, if_neg c_6], trivial⟩, hS.F ht⟩) hS.2.2 dX1_goesByRegister_34
set_option maxHeartbeats 4000000 in
set_option maxRecDepth 100000 in
theorem mX1_jumps (l : Launch) (sz : Nat) (h0 : Nat) (p0 : Int32) : Met l yX1_jumps wsX1_jumps ({ frames := 2, cells := 0, slots := 0, locals := 43 }) (va_Pc [.ref h0, .int p0] (fun U => U.heap.size = sz ∧ wv_rcv RX1 h0 U)) (va_Qi (fun (r : Int32) (_ : Unit) => r = fX1_jumps p0) (fun _ _ => True) (fun q : Nat => sz ≤ q)) 0 0 (fun q : Nat => sz ≤ q) := by
  refine Met.ofW (cc := cX1_jumps) (maxL := 4) (ret := (some .int)) (by decide) rfl ?_
  intro p e s m args below meth c s₁ B hml hv
  obtain ⟨rfl, hsz, hww⟩ := hv
  have hx := B.exec
  have hb := B.bytes
  have hr := B.returns
  have hts := atoms_spec (ws := wsX1_jumps) B.pre
  have hown : s.vm.findClass RX1 = some m.cls := findClass_of_methodNamed B.named
  have hlocks := B.notSynchronized
  subst hsz
  have hS : va_S (fun q : Nat => s.heap.size ≤ q) s.heap s.heap [] := va_S.rf
  have hl := lv_entry ([.ref h0, .int p0]) (n := 4) (Nat.le_of_ble_eq_true rfl)
  rw [lg_entry_eq]
  generalize (lg_sl ([.ref h0, .int p0]) ++ List.replicate (4 - (lg_sl ([.ref h0, .int p0])).length) Slot.unset).toArray = ls at hl ⊢
  have hl : lv_has ls 4 [(0, .ref h0), (1, .int p0)] := hl
  refine lv_iload_n hx hb dX1_jumps_0 rfl (lv_at hl 1 rfl) ?_
  refine lv_bipush (v := 26) hx hb dX1_jumps_1 (by decide) ?_
  refine lv_bipush (v := 31) hx hb dX1_jumps_3 (by decide) ?_
  refine va_calli (va_runS (As := [.int p0, .int (26 : Int32), .int (31 : Int32)]) (rest := []) ⟨hx, hb, hml, hown, hts⟩ (mX1_bits l s.heap.size p0 (26 : Int32) (31 : Int32)) (va_cwS 3 hts gX1_jumps_X1_bits rfl rfl rfl (by decide +kernel) ⟨Nat.le_of_ble_eq_true rfl, Nat.le_of_ble_eq_true rfl⟩) ⟨fb_pure, fun U hU hW => ⟨rfl, congrArg Array.size hU⟩⟩ rfl rfl hl.1 rfl (lv_room (Nat.le_of_ble_eq_true rfl)) dX1_jumps_5 ⟨Nat.zero_le _, Nat.zero_le _⟩) hS (fun q _ h => Nat.le_trans hS.1 h) (fun q h => Nat.le_trans hS.1 h) (fun r_1 _ _ H_1 _ _ _ hw _ _ _ hS => ?_)
  subst hw
  refine lv_istore_n (lv' := [(2, .int (fX1_bits p0 (26 : Int32) (31 : Int32))), (0, .ref h0), (1, .int p0)]) hx hb dX1_jumps_8 rfl hl (by decide) rfl (fun ls hl => ?_)
  refine lv_iload_n hx hb dX1_jumps_9 rfl (lv_at hl 0 rfl) ?_
  refine lv_iconst (v := 5) hx hb dX1_jumps_10 (by decide) ?_
  refine lv_icmp_ne (tgt := 17) hx hb dX1_jumps_11 (by decide) (fun c_2 => ?_) (fun c_2 => ?_)
  · -- taken
    refine lv_iload_n hx hb dX1_jumps_17 rfl (lv_at hl 0 rfl) ?_
    refine lv_bipush (v := 37) hx hb dX1_jumps_18 (by decide) ?_
    refine lv_icmp_ne (tgt := 26) hx hb dX1_jumps_20 (by decide) (fun c_3 => ?_) (fun c_3 => ?_)
    · -- taken
      refine lv_iload_n hx hb dX1_jumps_26 rfl (lv_at hl 2 rfl) ?_
      refine lv_bipush (v := 24) hx hb dX1_jumps_27 (by decide) ?_
      refine lv_bipush (v := 31) hx hb dX1_jumps_29 (by decide) ?_
      refine va_calli (va_runS (As := [.int p0, .int (24 : Int32), .int (31 : Int32)]) (rest := []) ⟨hx, hb, hml, hown, hts⟩ (mX1_bits l H_1.size p0 (24 : Int32) (31 : Int32)) (va_cwS 3 hts gX1_jumps_X1_bits rfl rfl rfl (by decide +kernel) ⟨Nat.le_of_ble_eq_true rfl, Nat.le_of_ble_eq_true rfl⟩) ⟨fb_pure, fun U hU hW => ⟨rfl, congrArg Array.size hU⟩⟩ rfl rfl hl.1 rfl (lv_room (Nat.le_of_ble_eq_true rfl)) dX1_jumps_31 ⟨Nat.zero_le _, Nat.zero_le _⟩) hS (fun q _ h => Nat.le_trans hS.1 h) (fun q h => Nat.le_trans hS.1 h) (fun r_4 _ _ H_4 _ _ _ hw _ _ _ hS => ?_)
      subst hw
      refine lv_bipush (v := 84) hx hb dX1_jumps_34 (by decide) ?_
      refine lv_icmp_ne (tgt := 66) hx hb dX1_jumps_36 (by decide) (fun c_5 => ?_) (fun c_5 => ?_)
      · -- taken
        refine lv_iload_n hx hb dX1_jumps_66 rfl (lv_at hl 2 rfl) ?_
        refine lv_bipush (v := 25) hx hb dX1_jumps_67 (by decide) ?_
        refine lv_bipush (v := 30) hx hb dX1_jumps_69 (by decide) ?_
        refine va_calli (va_runS (As := [.int p0, .int (25 : Int32), .int (30 : Int32)]) (rest := []) ⟨hx, hb, hml, hown, hts⟩ (mX1_bits l H_4.size p0 (25 : Int32) (30 : Int32)) (va_cwS 3 hts gX1_jumps_X1_bits rfl rfl rfl (by decide +kernel) ⟨Nat.le_of_ble_eq_true rfl, Nat.le_of_ble_eq_true rfl⟩) ⟨fb_pure, fun U hU hW => ⟨rfl, congrArg Array.size hU⟩⟩ rfl rfl hl.1 rfl (lv_room (Nat.le_of_ble_eq_true rfl)) dX1_jumps_71 ⟨Nat.zero_le _, Nat.zero_le _⟩) hS (fun q _ h => Nat.le_trans hS.1 h) (fun q h => Nat.le_trans hS.1 h) (fun r_6 _ _ H_6 _ _ _ hw _ _ _ hS => ?_)
        subst hw
        refine lv_istore_n (lv' := [(3, .int (fX1_bits p0 (25 : Int32) (30 : Int32))), (2, .int (fX1_bits p0 (26 : Int32) (31 : Int32))), (0, .ref h0), (1, .int p0)]) hx hb dX1_jumps_74 rfl hl (by decide) rfl (fun ls hl => ?_)
        refine lv_iload_n hx hb dX1_jumps_75 rfl (lv_at hl 0 rfl) ?_
        refine lv_bipush (v := 26) hx hb dX1_jumps_76 (by decide) ?_
        refine lv_icmp_ne (tgt := 84) hx hb dX1_jumps_78 (by decide) (fun c_7 => ?_) (fun c_7 => ?_)
        · -- taken
          refine lv_iload_n hx hb dX1_jumps_84 rfl (lv_at hl 0 rfl) ?_
          refine lv_bipush (v := 27) hx hb dX1_jumps_85 (by decide) ?_
          refine lv_icmp_ne (tgt := 93) hx hb dX1_jumps_87 (by decide) (fun c_8 => ?_) (fun c_8 => ?_)
          · -- taken
            refine lv_iload_n hx hb dX1_jumps_93 rfl (lv_at hl 3 rfl) ?_
            refine lv_bipush (v := 24) hx hb dX1_jumps_94 (by decide) ?_
            refine lv_bipush (v := 31) hx hb dX1_jumps_96 (by decide) ?_
            refine va_calli (va_runS (As := [.int p0, .int (24 : Int32), .int (31 : Int32)]) (rest := []) ⟨hx, hb, hml, hown, hts⟩ (mX1_bits l H_6.size p0 (24 : Int32) (31 : Int32)) (va_cwS 3 hts gX1_jumps_X1_bits rfl rfl rfl (by decide +kernel) ⟨Nat.le_of_ble_eq_true rfl, Nat.le_of_ble_eq_true rfl⟩) ⟨fb_pure, fun U hU hW => ⟨rfl, congrArg Array.size hU⟩⟩ rfl rfl hl.1 rfl (lv_room (Nat.le_of_ble_eq_true rfl)) dX1_jumps_98 ⟨Nat.zero_le _, Nat.zero_le _⟩) hS (fun q _ h => Nat.le_trans hS.1 h) (fun q h => Nat.le_trans hS.1 h) (fun r_9 _ _ H_9 _ _ _ hw _ _ _ hS => ?_)
            subst hw
            refine lv_sipush (v := 214) hx hb dX1_jumps_101 (by decide) ?_
            refine lv_icmp_ne (tgt := 112) hx hb dX1_jumps_104 (by decide) (fun c_10 => ?_) (fun c_10 => ?_)
            · -- taken
              refine lv_iload_n hx hb dX1_jumps_112 rfl (lv_at hl 3 rfl) ?_
              refine lv_bipush (v := 21) hx hb dX1_jumps_113 (by decide) ?_
              refine lv_bipush (v := 31) hx hb dX1_jumps_115 (by decide) ?_
              refine va_calli (va_runS (As := [.int p0, .int (21 : Int32), .int (31 : Int32)]) (rest := []) ⟨hx, hb, hml, hown, hts⟩ (mX1_bits l H_9.size p0 (21 : Int32) (31 : Int32)) (va_cwS 3 hts gX1_jumps_X1_bits rfl rfl rfl (by decide +kernel) ⟨Nat.le_of_ble_eq_true rfl, Nat.le_of_ble_eq_true rfl⟩) ⟨fb_pure, fun U hU hW => ⟨rfl, congrArg Array.size hU⟩⟩ rfl rfl hl.1 rfl (lv_room (Nat.le_of_ble_eq_true rfl)) dX1_jumps_117 ⟨Nat.zero_le _, Nat.zero_le _⟩) hS (fun q _ h => Nat.le_trans hS.1 h) (fun q h => Nat.le_trans hS.1 h) (fun r_11 _ _ H_11 _ _ _ hw _ _ _ hS => ?_)
              subst hw
              refine lv_sipush (v := 1696) hx hb dX1_jumps_120 (by decide) ?_
              refine lv_icmp_ne (tgt := 139) hx hb dX1_jumps_123 (by decide) (fun c_12 => ?_) (fun c_12 => ?_)
              · -- taken
                refine lv_iload_n hx hb dX1_jumps_139 rfl (lv_at hl 3 rfl) ?_
                refine lv_ldc hx hb hown (hts (.constant RX1 36 (-721215457)) (by decide +kernel)) dX1_jumps_140 ?_
                refine lv_icmp_ne (tgt := 150) hx hb dX1_jumps_142 (by decide) (fun c_13 => ?_) (fun c_13 => ?_)
                · -- taken
                  refine lv_iconst (v := 0) hx hb dX1_jumps_150 (by decide) ?_
                  exact W.iret (v := (0 : Int32)) hx hb hr (fun t ht hW => ⟨⟨(0 : Int32), (), rfl, by rw [fX1_jumps, if_neg c_2, if_neg c_3, if_neg c_5, if_neg c_7, if_neg c_8, if_neg c_10, if_neg c_12, if_neg c_13], trivial⟩, hS.F ht⟩) hS.2.2 dX1_jumps_151
                · -- not taken
                  refine lv_bipush (v := 21) hx hb dX1_jumps_145 (by decide) ?_
                  refine lv_goto (tgt := 151) hx hb dX1_jumps_147 (by decide) ?_
                  exact W.iret (v := (21 : Int32)) hx hb hr (fun t ht hW => ⟨⟨(21 : Int32), (), rfl, by rw [fX1_jumps, if_neg c_2, if_neg c_3, if_neg c_5, if_neg c_7, if_neg c_8, if_neg c_10, if_neg c_12, if_pos c_13], trivial⟩, hS.F ht⟩) hS.2.2 dX1_jumps_151
              · -- not taken
                refine lv_iload_n hx hb dX1_jumps_126 rfl (lv_at hl 3 rfl) ?_
                refine lv_iconst (v := 0) hx hb dX1_jumps_127 (by decide) ?_
                refine lv_iconst (v := 4) hx hb dX1_jumps_128 (by decide) ?_
                refine va_calli (va_runS (As := [.int p0, .int (0 : Int32), .int (4 : Int32)]) (rest := []) ⟨hx, hb, hml, hown, hts⟩ (mX1_bits l H_11.size p0 (0 : Int32) (4 : Int32)) (va_cwS 3 hts gX1_jumps_X1_bits rfl rfl rfl (by decide +kernel) ⟨Nat.le_of_ble_eq_true rfl, Nat.le_of_ble_eq_true rfl⟩) ⟨fb_pure, fun U hU hW => ⟨rfl, congrArg Array.size hU⟩⟩ rfl rfl hl.1 rfl (lv_room (Nat.le_of_ble_eq_true rfl)) dX1_jumps_129 ⟨Nat.zero_le _, Nat.zero_le _⟩) hS (fun q _ h => Nat.le_trans hS.1 h) (fun q h => Nat.le_trans hS.1 h) (fun r_14 _ _ H_14 _ _ _ hw _ _ _ hS => ?_)
                subst hw
                refine lv_iconst (v := 1) hx hb dX1_jumps_132 (by decide) ?_
                refine lv_icmp_ne (tgt := 139) hx hb dX1_jumps_133 (by decide) (fun c_15 => ?_) (fun c_15 => ?_)
                · -- taken
                  refine lv_iload_n hx hb dX1_jumps_139 rfl (lv_at hl 3 rfl) ?_
                  refine lv_ldc hx hb hown (hts (.constant RX1 36 (-721215457)) (by decide +kernel)) dX1_jumps_140 ?_
                  refine lv_icmp_ne (tgt := 150) hx hb dX1_jumps_142 (by decide) (fun c_16 => ?_) (fun c_16 => ?_)
                  · -- taken
                    refine lv_iconst (v := 0) hx hb dX1_jumps_150 (by decide) ?_
                    exact W.iret (v := (0 : Int32)) hx hb hr (fun t ht hW => ⟨⟨(0 : Int32), (), rfl, by rw [fX1_jumps, if_neg c_2, if_neg c_3, if_neg c_5, if_neg c_7, if_neg c_8, if_neg c_10, if_pos c_12, if_neg c_15, if_neg c_16], trivial⟩, hS.F ht⟩) hS.2.2 dX1_jumps_151
                  · -- not taken
                    refine lv_bipush (v := 21) hx hb dX1_jumps_145 (by decide) ?_
                    refine lv_goto (tgt := 151) hx hb dX1_jumps_147 (by decide) ?_
                    exact W.iret (v := (21 : Int32)) hx hb hr (fun t ht hW => ⟨⟨(21 : Int32), (), rfl, by rw [fX1_jumps, if_neg c_2, if_neg c_3, if_neg c_5, if_neg c_7, if_neg c_8, if_neg c_10, if_pos c_12, if_neg c_15, if_pos c_16], trivial⟩, hS.F ht⟩) hS.2.2 dX1_jumps_151
                · -- not taken
                  refine lv_bipush (v := 20) hx hb dX1_jumps_136 (by decide) ?_
                  exact W.iret (v := (20 : Int32)) hx hb hr (fun t ht hW => ⟨⟨(20 : Int32), (), rfl, by rw [fX1_jumps, if_neg c_2, if_neg c_3, if_neg c_5, if_neg c_7, if_neg c_8, if_neg c_10, if_pos c_12, if_pos c_15], trivial⟩, hS.F ht⟩) hS.2.2 dX1_jumps_138
            · -- not taken
              refine lv_iload_n hx hb dX1_jumps_107 rfl (lv_at hl 3 rfl) ?_
              refine va_calli (va_runS (As := [.int p0]) (rest := []) ⟨hx, hb, hml, hown, hts⟩ (mX1_goesByRegister l H_9.size p0) (va_cwS 1 hts gX1_jumps_X1_goesByRegister rfl rfl rfl (by decide +kernel) ⟨Nat.le_of_ble_eq_true rfl, Nat.le_of_ble_eq_true rfl⟩) ⟨fb_pure, fun U hU hW => ⟨rfl, congrArg Array.size hU⟩⟩ rfl rfl hl.1 rfl (lv_room (Nat.le_of_ble_eq_true rfl)) dX1_jumps_108 ⟨Nat.zero_le _, Nat.zero_le _⟩) hS (fun q _ h => Nat.le_trans hS.1 h) (fun q h => Nat.le_trans hS.1 h) (fun r_17 _ _ H_17 _ _ _ hw _ _ _ hS => ?_)
              subst hw
              exact W.iret (v := (fX1_goesByRegister p0)) hx hb hr (fun t ht hW => ⟨⟨(fX1_goesByRegister p0), (), rfl, by rw [fX1_jumps, if_neg c_2, if_neg c_3, if_neg c_5, if_neg c_7, if_neg c_8, if_pos c_10], trivial⟩, hS.F ht⟩) hS.2.2 dX1_jumps_111
          · -- not taken
            refine lv_bipush (v := 16) hx hb dX1_jumps_90 (by decide) ?_
            exact W.iret (v := (16 : Int32)) hx hb hr (fun t ht hW => ⟨⟨(16 : Int32), (), rfl, by rw [fX1_jumps, if_neg c_2, if_neg c_3, if_neg c_5, if_neg c_7, if_pos c_8], trivial⟩, hS.F ht⟩) hS.2.2 dX1_jumps_92
        · -- not taken
          refine lv_bipush (v := 15) hx hb dX1_jumps_81 (by decide) ?_
          exact W.iret (v := (15 : Int32)) hx hb hr (fun t ht hW => ⟨⟨(15 : Int32), (), rfl, by rw [fX1_jumps, if_neg c_2, if_neg c_3, if_neg c_5, if_pos c_7], trivial⟩, hS.F ht⟩) hS.2.2 dX1_jumps_83
      · -- not taken
        refine lv_iload_n hx hb dX1_jumps_39 rfl (lv_at hl 2 rfl) ?_
        refine lv_iconst (v := 4) hx hb dX1_jumps_40 (by decide) ?_
        refine lv_iconst (v := 4) hx hb dX1_jumps_41 (by decide) ?_
        refine va_calli (va_runS (As := [.int p0, .int (4 : Int32), .int (4 : Int32)]) (rest := []) ⟨hx, hb, hml, hown, hts⟩ (mX1_bits l H_4.size p0 (4 : Int32) (4 : Int32)) (va_cwS 3 hts gX1_jumps_X1_bits rfl rfl rfl (by decide +kernel) ⟨Nat.le_of_ble_eq_true rfl, Nat.le_of_ble_eq_true rfl⟩) ⟨fb_pure, fun U hU hW => ⟨rfl, congrArg Array.size hU⟩⟩ rfl rfl hl.1 rfl (lv_room (Nat.le_of_ble_eq_true rfl)) dX1_jumps_42 ⟨Nat.zero_le _, Nat.zero_le _⟩) hS (fun q _ h => Nat.le_trans hS.1 h) (fun q h => Nat.le_trans hS.1 h) (fun r_18 _ _ H_18 _ _ _ hw _ _ _ hS => ?_)
        subst hw
        refine lv_if_ne (tgt := 64) hx hb dX1_jumps_45 (by decide) (fun c_19 => ?_) (fun c_19 => ?_)
        · -- taken
          refine lv_iconst (v := 0) hx hb dX1_jumps_64 (by decide) ?_
          exact W.iret (v := (0 : Int32)) hx hb hr (fun t ht hW => ⟨⟨(0 : Int32), (), rfl, by rw [fX1_jumps, if_neg c_2, if_neg c_3, if_pos c_5, if_neg c_19], trivial⟩, hS.F ht⟩) hS.2.2 dX1_jumps_65
        · -- not taken
          refine lv_iload_n hx hb dX1_jumps_48 rfl (lv_at hl 2 rfl) ?_
          refine lv_iconst (v := 0) hx hb dX1_jumps_49 (by decide) ?_
          refine lv_iconst (v := 3) hx hb dX1_jumps_50 (by decide) ?_
          refine va_calli (va_runS (As := [.int p0, .int (0 : Int32), .int (3 : Int32)]) (rest := []) ⟨hx, hb, hml, hown, hts⟩ (mX1_bits l H_18.size p0 (0 : Int32) (3 : Int32)) (va_cwS 3 hts gX1_jumps_X1_bits rfl rfl rfl (by decide +kernel) ⟨Nat.le_of_ble_eq_true rfl, Nat.le_of_ble_eq_true rfl⟩) ⟨fb_pure, fun U hU hW => ⟨rfl, congrArg Array.size hU⟩⟩ rfl rfl hl.1 rfl (lv_room (Nat.le_of_ble_eq_true rfl)) dX1_jumps_51 ⟨Nat.zero_le _, Nat.zero_le _⟩) hS (fun q _ h => Nat.le_trans hS.1 h) (fun q h => Nat.le_trans hS.1 h) (fun r_20 _ _ H_20 _ _ _ hw _ _ _ hS => ?_)
          subst hw
          refine lv_bipush (v := 14) hx hb dX1_jumps_54 (by decide) ?_
          refine lv_icmp_ge (tgt := 64) hx hb dX1_jumps_56 (by decide) (fun c_21 => ?_) (fun c_21 => ?_)
          · -- taken
            refine lv_iconst (v := 0) hx hb dX1_jumps_64 (by decide) ?_
            exact W.iret (v := (0 : Int32)) hx hb hr (fun t ht hW => ⟨⟨(0 : Int32), (), rfl, by rw [fX1_jumps, if_neg c_2, if_neg c_3, if_pos c_5, if_pos c_19, if_pos c_21], trivial⟩, hS.F ht⟩) hS.2.2 dX1_jumps_65
          · -- not taken
            refine lv_bipush (v := 14) hx hb dX1_jumps_59 (by decide) ?_
            refine lv_goto (tgt := 65) hx hb dX1_jumps_61 (by decide) ?_
            exact W.iret (v := (14 : Int32)) hx hb hr (fun t ht hW => ⟨⟨(14 : Int32), (), rfl, by rw [fX1_jumps, if_neg c_2, if_neg c_3, if_pos c_5, if_pos c_19, if_neg c_21], trivial⟩, hS.F ht⟩) hS.2.2 dX1_jumps_65
    · -- not taken
      refine lv_bipush (v := 13) hx hb dX1_jumps_23 (by decide) ?_
      exact W.iret (v := (13 : Int32)) hx hb hr (fun t ht hW => ⟨⟨(13 : Int32), (), rfl, by rw [fX1_jumps, if_neg c_2, if_pos c_3], trivial⟩, hS.F ht⟩) hS.2.2 dX1_jumps_25
  · -- not taken
    refine lv_bipush (v := 12) hx hb dX1_jumps_14 (by decide) ?_
    exact W.iret (v := (12 : Int32)) hx hb hr (fun t ht hW => ⟨⟨(12 : Int32), (), rfl, by rw [fX1_jumps, if_pos c_2], trivial⟩, hS.F ht⟩) hS.2.2 dX1_jumps_16
set_option maxHeartbeats 4000000 in
set_option maxRecDepth 100000 in
theorem mX1_kind (l : Launch) (sz : Nat) (h0 : Nat) (p0 : Int32) : Met l yX1_kind wsX1_kind ({ frames := 3, cells := 0, slots := 0, locals := 66 }) (va_Pc [.ref h0, .int p0] (fun U => U.heap.size = sz ∧ wv_rcv RX1 h0 U)) (va_Qi (fun (r : Int32) (_ : Unit) => r = fX1_kind p0) (fun _ _ => True) (fun q : Nat => sz ≤ q)) 0 0 (fun q : Nat => sz ≤ q) := by
  refine Met.ofW (cc := cX1_kind) (maxL := 3) (ret := (some .int)) (by decide) rfl ?_
  intro p e s m args below meth c s₁ B hml hv
  obtain ⟨rfl, hsz, hww⟩ := hv
  have hx := B.exec
  have hb := B.bytes
  have hr := B.returns
  have hts := atoms_spec (ws := wsX1_kind) B.pre
  have hown : s.vm.findClass RX1 = some m.cls := findClass_of_methodNamed B.named
  have hlocks := B.notSynchronized
  subst hsz
  have hS : va_S (fun q : Nat => s.heap.size ≤ q) s.heap s.heap [] := va_S.rf
  have hl := lv_entry ([.ref h0, .int p0]) (n := 3) (Nat.le_of_ble_eq_true rfl)
  rw [lg_entry_eq]
  generalize (lg_sl ([.ref h0, .int p0]) ++ List.replicate (3 - (lg_sl ([.ref h0, .int p0])).length) Slot.unset).toArray = ls at hl ⊢
  have hl : lv_has ls 3 [(0, .ref h0), (1, .int p0)] := hl
  refine lv_iload_n hx hb dX1_kind_0 rfl (lv_at hl 1 rfl) ?_
  refine lv_bipush (v := 24) hx hb dX1_kind_1 (by decide) ?_
  refine lv_bipush (v := 28) hx hb dX1_kind_3 (by decide) ?_
  refine va_calli (va_runS (As := [.int p0, .int (24 : Int32), .int (28 : Int32)]) (rest := []) ⟨hx, hb, hml, hown, hts⟩ (mX1_bits l s.heap.size p0 (24 : Int32) (28 : Int32)) (va_cwS 3 hts gX1_kind_X1_bits rfl rfl rfl (by decide +kernel) ⟨Nat.le_of_ble_eq_true rfl, Nat.le_of_ble_eq_true rfl⟩) ⟨fb_pure, fun U hU hW => ⟨rfl, congrArg Array.size hU⟩⟩ rfl rfl hl.1 rfl (lv_room (Nat.le_of_ble_eq_true rfl)) dX1_kind_5 ⟨Nat.zero_le _, Nat.zero_le _⟩) hS (fun q _ h => Nat.le_trans hS.1 h) (fun q h => Nat.le_trans hS.1 h) (fun r_1 _ _ H_1 _ _ _ hw _ _ _ hS => ?_)
  subst hw
  refine lv_istore_n (lv' := [(2, .int (fX1_bits p0 (24 : Int32) (28 : Int32))), (0, .ref h0), (1, .int p0)]) hx hb dX1_kind_8 rfl hl (by decide) rfl (fun ls hl => ?_)
  refine lv_iload_n hx hb dX1_kind_9 rfl (lv_at hl 0 rfl) ?_
  by_cases c_2 : (fX1_bits p0 (24 : Int32) (28 : Int32)) = (8 : Int32)
  · refine lv_tableIn (off := 323) (tgt := 333) hx hb dX1_kind_10 (by rw [c_2]; decide) (by rw [c_2]; decide) (by rw [c_2]; decide) (by decide) ?_
    refine lv_iload_n hx hb dX1_kind_333 rfl (lv_at hl 2 rfl) ?_
    refine lv_bipush (v := 25) hx hb dX1_kind_334 (by decide) ?_
    refine lv_bipush (v := 31) hx hb dX1_kind_336 (by decide) ?_
    refine va_calli (va_runS (As := [.int p0, .int (25 : Int32), .int (31 : Int32)]) (rest := []) ⟨hx, hb, hml, hown, hts⟩ (mX1_bits l H_1.size p0 (25 : Int32) (31 : Int32)) (va_cwS 3 hts gX1_kind_X1_bits rfl rfl rfl (by decide +kernel) ⟨Nat.le_of_ble_eq_true rfl, Nat.le_of_ble_eq_true rfl⟩) ⟨fb_pure, fun U hU hW => ⟨rfl, congrArg Array.size hU⟩⟩ rfl rfl hl.1 rfl (lv_room (Nat.le_of_ble_eq_true rfl)) dX1_kind_338 ⟨Nat.zero_le _, Nat.zero_le _⟩) hS (fun q _ h => Nat.le_trans hS.1 h) (fun q h => Nat.le_trans hS.1 h) (fun r_3 _ _ H_3 _ _ _ hw _ _ _ hS => ?_)
    subst hw
    refine lv_bipush (v := 84) hx hb dX1_kind_341 (by decide) ?_
    refine lv_icmp_ne (tgt := 358) hx hb dX1_kind_343 (by decide) (fun c_4 => ?_) (fun c_4 => ?_)
    · -- taken
      refine lv_iconst (v := 0) hx hb dX1_kind_358 (by decide) ?_
      exact W.iret (v := (0 : Int32)) hx hb hr (fun t ht hW => ⟨⟨(0 : Int32), (), rfl, by rw [fX1_kind, if_pos c_2, if_neg c_4], trivial⟩, hS.F ht⟩) hS.2.2 dX1_kind_359
    · -- not taken
      refine lv_iload_n hx hb dX1_kind_346 rfl (lv_at hl 2 rfl) ?_
      refine va_calli (va_runS (As := [.int p0]) (rest := []) ⟨hx, hb, hml, hown, hts⟩ (mX1_isPair l H_3.size p0) (va_cwS 1 hts gX1_kind_X1_isPair rfl rfl rfl (by decide +kernel) ⟨Nat.le_of_ble_eq_true rfl, Nat.le_of_ble_eq_true rfl⟩) ⟨fb_pure, fun U hU hW => ⟨rfl, congrArg Array.size hU⟩⟩ rfl rfl hl.1 rfl (lv_room (Nat.le_of_ble_eq_true rfl)) dX1_kind_347 ⟨Nat.zero_le _, Nat.zero_le _⟩) hS (fun q _ h => Nat.le_trans hS.1 h) (fun q h => Nat.le_trans hS.1 h) (fun r_5 _ _ H_5 _ _ _ hw _ _ _ hS => ?_)
      subst hw
      refine lv_if_eq (tgt := 358) hx hb dX1_kind_350 (by decide) (fun c_6 => ?_) (fun c_6 => ?_)
      · -- taken
        refine lv_iconst (v := 0) hx hb dX1_kind_358 (by decide) ?_
        exact W.iret (v := (0 : Int32)) hx hb hr (fun t ht hW => ⟨⟨(0 : Int32), (), rfl, by rw [fX1_kind, if_pos c_2, if_pos c_4, if_pos c_6], trivial⟩, hS.F ht⟩) hS.2.2 dX1_kind_359
      · -- not taken
        refine lv_bipush (v := 11) hx hb dX1_kind_353 (by decide) ?_
        refine lv_goto (tgt := 359) hx hb dX1_kind_355 (by decide) ?_
        exact W.iret (v := (11 : Int32)) hx hb hr (fun t ht hW => ⟨⟨(11 : Int32), (), rfl, by rw [fX1_kind, if_pos c_2, if_pos c_4, if_neg c_6], trivial⟩, hS.F ht⟩) hS.2.2 dX1_kind_359
  · -- another
    by_cases c_7 : (fX1_bits p0 (24 : Int32) (28 : Int32)) = (9 : Int32)
    · refine lv_tableIn (off := 323) (tgt := 333) hx hb dX1_kind_10 (by rw [c_7]; decide) (by rw [c_7]; decide) (by rw [c_7]; decide) (by decide) ?_
      refine lv_iload_n hx hb dX1_kind_333 rfl (lv_at hl 2 rfl) ?_
      refine lv_bipush (v := 25) hx hb dX1_kind_334 (by decide) ?_
      refine lv_bipush (v := 31) hx hb dX1_kind_336 (by decide) ?_
      refine va_calli (va_runS (As := [.int p0, .int (25 : Int32), .int (31 : Int32)]) (rest := []) ⟨hx, hb, hml, hown, hts⟩ (mX1_bits l H_1.size p0 (25 : Int32) (31 : Int32)) (va_cwS 3 hts gX1_kind_X1_bits rfl rfl rfl (by decide +kernel) ⟨Nat.le_of_ble_eq_true rfl, Nat.le_of_ble_eq_true rfl⟩) ⟨fb_pure, fun U hU hW => ⟨rfl, congrArg Array.size hU⟩⟩ rfl rfl hl.1 rfl (lv_room (Nat.le_of_ble_eq_true rfl)) dX1_kind_338 ⟨Nat.zero_le _, Nat.zero_le _⟩) hS (fun q _ h => Nat.le_trans hS.1 h) (fun q h => Nat.le_trans hS.1 h) (fun r_8 _ _ H_8 _ _ _ hw _ _ _ hS => ?_)
      subst hw
      refine lv_bipush (v := 84) hx hb dX1_kind_341 (by decide) ?_
      refine lv_icmp_ne (tgt := 358) hx hb dX1_kind_343 (by decide) (fun c_9 => ?_) (fun c_9 => ?_)
      · -- taken
        refine lv_iconst (v := 0) hx hb dX1_kind_358 (by decide) ?_
        exact W.iret (v := (0 : Int32)) hx hb hr (fun t ht hW => ⟨⟨(0 : Int32), (), rfl, by rw [fX1_kind, if_neg c_2, if_pos c_7, if_neg c_9], trivial⟩, hS.F ht⟩) hS.2.2 dX1_kind_359
      · -- not taken
        refine lv_iload_n hx hb dX1_kind_346 rfl (lv_at hl 2 rfl) ?_
        refine va_calli (va_runS (As := [.int p0]) (rest := []) ⟨hx, hb, hml, hown, hts⟩ (mX1_isPair l H_8.size p0) (va_cwS 1 hts gX1_kind_X1_isPair rfl rfl rfl (by decide +kernel) ⟨Nat.le_of_ble_eq_true rfl, Nat.le_of_ble_eq_true rfl⟩) ⟨fb_pure, fun U hU hW => ⟨rfl, congrArg Array.size hU⟩⟩ rfl rfl hl.1 rfl (lv_room (Nat.le_of_ble_eq_true rfl)) dX1_kind_347 ⟨Nat.zero_le _, Nat.zero_le _⟩) hS (fun q _ h => Nat.le_trans hS.1 h) (fun q h => Nat.le_trans hS.1 h) (fun r_10 _ _ H_10 _ _ _ hw _ _ _ hS => ?_)
        subst hw
        refine lv_if_eq (tgt := 358) hx hb dX1_kind_350 (by decide) (fun c_11 => ?_) (fun c_11 => ?_)
        · -- taken
          refine lv_iconst (v := 0) hx hb dX1_kind_358 (by decide) ?_
          exact W.iret (v := (0 : Int32)) hx hb hr (fun t ht hW => ⟨⟨(0 : Int32), (), rfl, by rw [fX1_kind, if_neg c_2, if_pos c_7, if_pos c_9, if_pos c_11], trivial⟩, hS.F ht⟩) hS.2.2 dX1_kind_359
        · -- not taken
          refine lv_bipush (v := 11) hx hb dX1_kind_353 (by decide) ?_
          refine lv_goto (tgt := 359) hx hb dX1_kind_355 (by decide) ?_
          exact W.iret (v := (11 : Int32)) hx hb hr (fun t ht hW => ⟨⟨(11 : Int32), (), rfl, by rw [fX1_kind, if_neg c_2, if_pos c_7, if_pos c_9, if_neg c_11], trivial⟩, hS.F ht⟩) hS.2.2 dX1_kind_359
    · -- another
      by_cases c_12 : (fX1_bits p0 (24 : Int32) (28 : Int32)) = (10 : Int32)
      · refine lv_tableIn (off := 166) (tgt := 176) hx hb dX1_kind_10 (by rw [c_12]; decide) (by rw [c_12]; decide) (by rw [c_12]; decide) (by decide) ?_
        refine lv_iload_n hx hb dX1_kind_176 rfl (lv_at hl 2 rfl) ?_
        refine va_calli (va_runS (As := [.int p0]) (rest := []) ⟨hx, hb, hml, hown, hts⟩ (mX1_isMoved l H_1.size p0) (va_cwS 1 hts gX1_kind_X1_isMoved rfl rfl rfl (by decide +kernel) ⟨Nat.le_of_ble_eq_true rfl, Nat.le_of_ble_eq_true rfl⟩) ⟨fb_pure, fun U hU hW => ⟨rfl, congrArg Array.size hU⟩⟩ rfl rfl hl.1 rfl (lv_room (Nat.le_of_ble_eq_true rfl)) dX1_kind_177 ⟨Nat.zero_le _, Nat.zero_le _⟩) hS (fun q _ h => Nat.le_trans hS.1 h) (fun q h => Nat.le_trans hS.1 h) (fun r_13 _ _ H_13 _ _ _ hw _ _ _ hS => ?_)
        subst hw
        refine lv_if_eq (tgt := 187) hx hb dX1_kind_180 (by decide) (fun c_14 => ?_) (fun c_14 => ?_)
        · -- taken
          refine lv_iconst (v := 0) hx hb dX1_kind_187 (by decide) ?_
          exact W.iret (v := (0 : Int32)) hx hb hr (fun t ht hW => ⟨⟨(0 : Int32), (), rfl, by rw [fX1_kind, if_neg c_2, if_neg c_7, if_pos c_12, if_pos c_14], trivial⟩, hS.F ht⟩) hS.2.2 dX1_kind_188
        · -- not taken
          refine lv_iconst (v := 3) hx hb dX1_kind_183 (by decide) ?_
          refine lv_goto (tgt := 188) hx hb dX1_kind_184 (by decide) ?_
          exact W.iret (v := (3 : Int32)) hx hb hr (fun t ht hW => ⟨⟨(3 : Int32), (), rfl, by rw [fX1_kind, if_neg c_2, if_neg c_7, if_pos c_12, if_neg c_14], trivial⟩, hS.F ht⟩) hS.2.2 dX1_kind_188
      · -- another
        by_cases c_15 : (fX1_bits p0 (24 : Int32) (28 : Int32)) = (11 : Int32)
        · refine lv_tableIn (off := 179) (tgt := 189) hx hb dX1_kind_10 (by rw [c_15]; decide) (by rw [c_15]; decide) (by rw [c_15]; decide) (by decide) ?_
          refine lv_iload_n hx hb dX1_kind_189 rfl (lv_at hl 2 rfl) ?_
          refine lv_bipush (v := 21) hx hb dX1_kind_190 (by decide) ?_
          refine lv_bipush (v := 21) hx hb dX1_kind_192 (by decide) ?_
          refine va_calli (va_runS (As := [.int p0, .int (21 : Int32), .int (21 : Int32)]) (rest := []) ⟨hx, hb, hml, hown, hts⟩ (mX1_bits l H_1.size p0 (21 : Int32) (21 : Int32)) (va_cwS 3 hts gX1_kind_X1_bits rfl rfl rfl (by decide +kernel) ⟨Nat.le_of_ble_eq_true rfl, Nat.le_of_ble_eq_true rfl⟩) ⟨fb_pure, fun U hU hW => ⟨rfl, congrArg Array.size hU⟩⟩ rfl rfl hl.1 rfl (lv_room (Nat.le_of_ble_eq_true rfl)) dX1_kind_194 ⟨Nat.zero_le _, Nat.zero_le _⟩) hS (fun q _ h => Nat.le_trans hS.1 h) (fun q h => Nat.le_trans hS.1 h) (fun r_16 _ _ H_16 _ _ _ hw _ _ _ hS => ?_)
          subst hw
          refine lv_if_ne (tgt := 223) hx hb dX1_kind_197 (by decide) (fun c_17 => ?_) (fun c_17 => ?_)
          · -- taken
            refine lv_iconst (v := 0) hx hb dX1_kind_223 (by decide) ?_
            exact W.iret (v := (0 : Int32)) hx hb hr (fun t ht hW => ⟨⟨(0 : Int32), (), rfl, by rw [fX1_kind, if_neg c_2, if_neg c_7, if_neg c_12, if_pos c_15, if_neg c_17], trivial⟩, hS.F ht⟩) hS.2.2 dX1_kind_224
          · -- not taken
            refine lv_iload_n hx hb dX1_kind_200 rfl (lv_at hl 2 rfl) ?_
            refine lv_bipush (v := 22) hx hb dX1_kind_201 (by decide) ?_
            refine lv_bipush (v := 23) hx hb dX1_kind_203 (by decide) ?_
            refine va_calli (va_runS (As := [.int p0, .int (22 : Int32), .int (23 : Int32)]) (rest := []) ⟨hx, hb, hml, hown, hts⟩ (mX1_bits l H_16.size p0 (22 : Int32) (23 : Int32)) (va_cwS 3 hts gX1_kind_X1_bits rfl rfl rfl (by decide +kernel) ⟨Nat.le_of_ble_eq_true rfl, Nat.le_of_ble_eq_true rfl⟩) ⟨fb_pure, fun U hU hW => ⟨rfl, congrArg Array.size hU⟩⟩ rfl rfl hl.1 rfl (lv_room (Nat.le_of_ble_eq_true rfl)) dX1_kind_205 ⟨Nat.zero_le _, Nat.zero_le _⟩) hS (fun q _ h => Nat.le_trans hS.1 h) (fun q h => Nat.le_trans hS.1 h) (fun r_18 _ _ H_18 _ _ _ hw _ _ _ hS => ?_)
            subst hw
            refine lv_iconst (v := 3) hx hb dX1_kind_208 (by decide) ?_
            refine lv_icmp_eq (tgt := 223) hx hb dX1_kind_209 (by decide) (fun c_19 => ?_) (fun c_19 => ?_)
            · -- taken
              refine lv_iconst (v := 0) hx hb dX1_kind_223 (by decide) ?_
              exact W.iret (v := (0 : Int32)) hx hb hr (fun t ht hW => ⟨⟨(0 : Int32), (), rfl, by rw [fX1_kind, if_neg c_2, if_neg c_7, if_neg c_12, if_pos c_15, if_pos c_17, if_pos c_19], trivial⟩, hS.F ht⟩) hS.2.2 dX1_kind_224
            · -- not taken
              refine lv_iload_n hx hb dX1_kind_212 rfl (lv_at hl 2 rfl) ?_
              refine va_calli (va_runS (As := [.int p0]) (rest := []) ⟨hx, hb, hml, hown, hts⟩ (mX1_isMoved l H_18.size p0) (va_cwS 1 hts gX1_kind_X1_isMoved rfl rfl rfl (by decide +kernel) ⟨Nat.le_of_ble_eq_true rfl, Nat.le_of_ble_eq_true rfl⟩) ⟨fb_pure, fun U hU hW => ⟨rfl, congrArg Array.size hU⟩⟩ rfl rfl hl.1 rfl (lv_room (Nat.le_of_ble_eq_true rfl)) dX1_kind_213 ⟨Nat.zero_le _, Nat.zero_le _⟩) hS (fun q _ h => Nat.le_trans hS.1 h) (fun q h => Nat.le_trans hS.1 h) (fun r_20 _ _ H_20 _ _ _ hw _ _ _ hS => ?_)
              subst hw
              refine lv_if_eq (tgt := 223) hx hb dX1_kind_216 (by decide) (fun c_21 => ?_) (fun c_21 => ?_)
              · -- taken
                refine lv_iconst (v := 0) hx hb dX1_kind_223 (by decide) ?_
                exact W.iret (v := (0 : Int32)) hx hb hr (fun t ht hW => ⟨⟨(0 : Int32), (), rfl, by rw [fX1_kind, if_neg c_2, if_neg c_7, if_neg c_12, if_pos c_15, if_pos c_17, if_neg c_19, if_pos c_21], trivial⟩, hS.F ht⟩) hS.2.2 dX1_kind_224
              · -- not taken
                refine lv_iconst (v := 2) hx hb dX1_kind_219 (by decide) ?_
                refine lv_goto (tgt := 224) hx hb dX1_kind_220 (by decide) ?_
                exact W.iret (v := (2 : Int32)) hx hb hr (fun t ht hW => ⟨⟨(2 : Int32), (), rfl, by rw [fX1_kind, if_neg c_2, if_neg c_7, if_neg c_12, if_pos c_15, if_pos c_17, if_neg c_19, if_neg c_21], trivial⟩, hS.F ht⟩) hS.2.2 dX1_kind_224
        · -- another
          by_cases c_22 : (fX1_bits p0 (24 : Int32) (28 : Int32)) = (16 : Int32)
          · refine lv_tableIn (off := 94) (tgt := 104) hx hb dX1_kind_10 (by rw [c_22]; decide) (by rw [c_22]; decide) (by rw [c_22]; decide) (by decide) ?_
            refine lv_iload_n hx hb dX1_kind_104 rfl (lv_at hl 2 rfl) ?_
            refine lv_if_ge (tgt := 112) hx hb dX1_kind_105 (by decide) (fun c_23 => ?_) (fun c_23 => ?_)
            · -- taken
              refine lv_iconst (v := 0) hx hb dX1_kind_112 (by decide) ?_
              exact W.iret (v := (0 : Int32)) hx hb hr (fun t ht hW => ⟨⟨(0 : Int32), (), rfl, by rw [fX1_kind, if_neg c_2, if_neg c_7, if_neg c_12, if_neg c_15, if_pos c_22, if_pos c_23], trivial⟩, hS.F ht⟩) hS.2.2 dX1_kind_113
            · -- not taken
              refine lv_iconst (v := 5) hx hb dX1_kind_108 (by decide) ?_
              refine lv_goto (tgt := 113) hx hb dX1_kind_109 (by decide) ?_
              exact W.iret (v := (5 : Int32)) hx hb hr (fun t ht hW => ⟨⟨(5 : Int32), (), rfl, by rw [fX1_kind, if_neg c_2, if_neg c_7, if_neg c_12, if_neg c_15, if_pos c_22, if_neg c_23], trivial⟩, hS.F ht⟩) hS.2.2 dX1_kind_113
          · -- another
            by_cases c_24 : (fX1_bits p0 (24 : Int32) (28 : Int32)) = (17 : Int32)
            · refine lv_tableIn (off := 104) (tgt := 114) hx hb dX1_kind_10 (by rw [c_24]; decide) (by rw [c_24]; decide) (by rw [c_24]; decide) (by decide) ?_
              refine lv_iload_n hx hb dX1_kind_114 rfl (lv_at hl 2 rfl) ?_
              refine lv_bipush (v := 23) hx hb dX1_kind_115 (by decide) ?_
              refine lv_bipush (v := 23) hx hb dX1_kind_117 (by decide) ?_
              refine va_calli (va_runS (As := [.int p0, .int (23 : Int32), .int (23 : Int32)]) (rest := []) ⟨hx, hb, hml, hown, hts⟩ (mX1_bits l H_1.size p0 (23 : Int32) (23 : Int32)) (va_cwS 3 hts gX1_kind_X1_bits rfl rfl rfl (by decide +kernel) ⟨Nat.le_of_ble_eq_true rfl, Nat.le_of_ble_eq_true rfl⟩) ⟨fb_pure, fun U hU hW => ⟨rfl, congrArg Array.size hU⟩⟩ rfl rfl hl.1 rfl (lv_room (Nat.le_of_ble_eq_true rfl)) dX1_kind_119 ⟨Nat.zero_le _, Nat.zero_le _⟩) hS (fun q _ h => Nat.le_trans hS.1 h) (fun q h => Nat.le_trans hS.1 h) (fun r_25 _ _ H_25 _ _ _ hw _ _ _ hS => ?_)
              subst hw
              refine lv_if_ne (tgt := 129) hx hb dX1_kind_122 (by decide) (fun c_26 => ?_) (fun c_26 => ?_)
              · -- taken
                refine lv_iconst (v := 0) hx hb dX1_kind_129 (by decide) ?_
                exact W.iret (v := (0 : Int32)) hx hb hr (fun t ht hW => ⟨⟨(0 : Int32), (), rfl, by rw [fX1_kind, if_neg c_2, if_neg c_7, if_neg c_12, if_neg c_15, if_neg c_22, if_pos c_24, if_neg c_26], trivial⟩, hS.F ht⟩) hS.2.2 dX1_kind_130
              · -- not taken
                refine lv_iconst (v := 1) hx hb dX1_kind_125 (by decide) ?_
                refine lv_goto (tgt := 130) hx hb dX1_kind_126 (by decide) ?_
                exact W.iret (v := (1 : Int32)) hx hb hr (fun t ht hW => ⟨⟨(1 : Int32), (), rfl, by rw [fX1_kind, if_neg c_2, if_neg c_7, if_neg c_12, if_neg c_15, if_neg c_22, if_pos c_24, if_pos c_26], trivial⟩, hS.F ht⟩) hS.2.2 dX1_kind_130
            · -- another
              by_cases c_27 : (fX1_bits p0 (24 : Int32) (28 : Int32)) = (18 : Int32)
              · refine lv_tableIn (off := 121) (tgt := 131) hx hb dX1_kind_10 (by rw [c_27]; decide) (by rw [c_27]; decide) (by rw [c_27]; decide) (by decide) ?_
                refine lv_iload_n hx hb dX1_kind_131 rfl (lv_at hl 2 rfl) ?_
                refine lv_bipush (v := 23) hx hb dX1_kind_132 (by decide) ?_
                refine lv_bipush (v := 23) hx hb dX1_kind_134 (by decide) ?_
                refine va_calli (va_runS (As := [.int p0, .int (23 : Int32), .int (23 : Int32)]) (rest := []) ⟨hx, hb, hml, hown, hts⟩ (mX1_bits l H_1.size p0 (23 : Int32) (23 : Int32)) (va_cwS 3 hts gX1_kind_X1_bits rfl rfl rfl (by decide +kernel) ⟨Nat.le_of_ble_eq_true rfl, Nat.le_of_ble_eq_true rfl⟩) ⟨fb_pure, fun U hU hW => ⟨rfl, congrArg Array.size hU⟩⟩ rfl rfl hl.1 rfl (lv_room (Nat.le_of_ble_eq_true rfl)) dX1_kind_136 ⟨Nat.zero_le _, Nat.zero_le _⟩) hS (fun q _ h => Nat.le_trans hS.1 h) (fun q h => Nat.le_trans hS.1 h) (fun r_28 _ _ H_28 _ _ _ hw _ _ _ hS => ?_)
                subst hw
                refine lv_iconst (v := 1) hx hb dX1_kind_139 (by decide) ?_
                refine lv_icmp_ne (tgt := 174) hx hb dX1_kind_140 (by decide) (fun c_29 => ?_) (fun c_29 => ?_)
                · -- taken
                  refine lv_iconst (v := 0) hx hb dX1_kind_174 (by decide) ?_
                  exact W.iret (v := (0 : Int32)) hx hb hr (fun t ht hW => ⟨⟨(0 : Int32), (), rfl, by rw [fX1_kind, if_neg c_2, if_neg c_7, if_neg c_12, if_neg c_15, if_neg c_22, if_neg c_24, if_pos c_27, if_neg c_29], trivial⟩, hS.F ht⟩) hS.2.2 dX1_kind_175
                · -- not taken
                  refine lv_iload_n hx hb dX1_kind_143 rfl (lv_at hl 2 rfl) ?_
                  refine lv_bipush (v := 29) hx hb dX1_kind_144 (by decide) ?_
                  refine lv_bipush (v := 30) hx hb dX1_kind_146 (by decide) ?_
                  refine va_calli (va_runS (As := [.int p0, .int (29 : Int32), .int (30 : Int32)]) (rest := []) ⟨hx, hb, hml, hown, hts⟩ (mX1_bits l H_28.size p0 (29 : Int32) (30 : Int32)) (va_cwS 3 hts gX1_kind_X1_bits rfl rfl rfl (by decide +kernel) ⟨Nat.le_of_ble_eq_true rfl, Nat.le_of_ble_eq_true rfl⟩) ⟨fb_pure, fun U hU hW => ⟨rfl, congrArg Array.size hU⟩⟩ rfl rfl hl.1 rfl (lv_room (Nat.le_of_ble_eq_true rfl)) dX1_kind_148 ⟨Nat.zero_le _, Nat.zero_le _⟩) hS (fun q _ h => Nat.le_trans hS.1 h) (fun q h => Nat.le_trans hS.1 h) (fun r_30 _ _ H_30 _ _ _ hw _ _ _ hS => ?_)
                  subst hw
                  refine lv_iconst (v := 1) hx hb dX1_kind_151 (by decide) ?_
                  refine lv_icmp_eq (tgt := 174) hx hb dX1_kind_152 (by decide) (fun c_31 => ?_) (fun c_31 => ?_)
                  · -- taken
                    refine lv_iconst (v := 0) hx hb dX1_kind_174 (by decide) ?_
                    exact W.iret (v := (0 : Int32)) hx hb hr (fun t ht hW => ⟨⟨(0 : Int32), (), rfl, by rw [fX1_kind, if_neg c_2, if_neg c_7, if_neg c_12, if_neg c_15, if_neg c_22, if_neg c_24, if_pos c_27, if_pos c_29, if_pos c_31], trivial⟩, hS.F ht⟩) hS.2.2 dX1_kind_175
                  · -- not taken
                    refine lv_iload_n hx hb dX1_kind_155 rfl (lv_at hl 2 rfl) ?_
                    refine lv_if_lt (tgt := 170) hx hb dX1_kind_156 (by decide) (fun c_32 => ?_) (fun c_32 => ?_)
                    · -- taken
                      refine lv_iconst (v := 4) hx hb dX1_kind_170 (by decide) ?_
                      refine lv_goto (tgt := 175) hx hb dX1_kind_171 (by decide) ?_
                      exact W.iret (v := (4 : Int32)) hx hb hr (fun t ht hW => ⟨⟨(4 : Int32), (), rfl, by rw [fX1_kind, if_neg c_2, if_neg c_7, if_neg c_12, if_neg c_15, if_neg c_22, if_neg c_24, if_pos c_27, if_pos c_29, if_neg c_31, if_pos c_32], trivial⟩, hS.F ht⟩) hS.2.2 dX1_kind_175
                    · -- not taken
                      refine lv_iload_n hx hb dX1_kind_159 rfl (lv_at hl 2 rfl) ?_
                      refine lv_bipush (v := 22) hx hb dX1_kind_160 (by decide) ?_
                      refine lv_bipush (v := 22) hx hb dX1_kind_162 (by decide) ?_
                      refine va_calli (va_runS (As := [.int p0, .int (22 : Int32), .int (22 : Int32)]) (rest := []) ⟨hx, hb, hml, hown, hts⟩ (mX1_bits l H_30.size p0 (22 : Int32) (22 : Int32)) (va_cwS 3 hts gX1_kind_X1_bits rfl rfl rfl (by decide +kernel) ⟨Nat.le_of_ble_eq_true rfl, Nat.le_of_ble_eq_true rfl⟩) ⟨fb_pure, fun U hU hW => ⟨rfl, congrArg Array.size hU⟩⟩ rfl rfl hl.1 rfl (lv_room (Nat.le_of_ble_eq_true rfl)) dX1_kind_164 ⟨Nat.zero_le _, Nat.zero_le _⟩) hS (fun q _ h => Nat.le_trans hS.1 h) (fun q h => Nat.le_trans hS.1 h) (fun r_33 _ _ H_33 _ _ _ hw _ _ _ hS => ?_)
                      subst hw
                      refine lv_if_ne (tgt := 174) hx hb dX1_kind_167 (by decide) (fun c_34 => ?_) (fun c_34 => ?_)
                      · -- taken
                        refine lv_iconst (v := 0) hx hb dX1_kind_174 (by decide) ?_
                        exact W.iret (v := (0 : Int32)) hx hb hr (fun t ht hW => ⟨⟨(0 : Int32), (), rfl, by rw [fX1_kind, if_neg c_2, if_neg c_7, if_neg c_12, if_neg c_15, if_neg c_22, if_neg c_24, if_pos c_27, if_pos c_29, if_neg c_31, if_neg c_32, if_neg c_34], trivial⟩, hS.F ht⟩) hS.2.2 dX1_kind_175
                      · -- not taken
                        refine lv_iconst (v := 4) hx hb dX1_kind_170 (by decide) ?_
                        refine lv_goto (tgt := 175) hx hb dX1_kind_171 (by decide) ?_
                        exact W.iret (v := (4 : Int32)) hx hb hr (fun t ht hW => ⟨⟨(4 : Int32), (), rfl, by rw [fX1_kind, if_neg c_2, if_neg c_7, if_neg c_12, if_neg c_15, if_neg c_22, if_neg c_24, if_pos c_27, if_pos c_29, if_neg c_31, if_neg c_32, if_pos c_34], trivial⟩, hS.F ht⟩) hS.2.2 dX1_kind_175
              · -- another
                by_cases c_35 : (fX1_bits p0 (24 : Int32) (28 : Int32)) = (24 : Int32)
                · refine lv_tableIn (off := 264) (tgt := 274) hx hb dX1_kind_10 (by rw [c_35]; decide) (by rw [c_35]; decide) (by rw [c_35]; decide) (by decide) ?_
                  refine lv_iload_n hx hb dX1_kind_274 rfl (lv_at hl 2 rfl) ?_
                  refine lv_bipush (v := 29) hx hb dX1_kind_275 (by decide) ?_
                  refine lv_bipush (v := 29) hx hb dX1_kind_277 (by decide) ?_
                  refine va_calli (va_runS (As := [.int p0, .int (29 : Int32), .int (29 : Int32)]) (rest := []) ⟨hx, hb, hml, hown, hts⟩ (mX1_bits l H_1.size p0 (29 : Int32) (29 : Int32)) (va_cwS 3 hts gX1_kind_X1_bits rfl rfl rfl (by decide +kernel) ⟨Nat.le_of_ble_eq_true rfl, Nat.le_of_ble_eq_true rfl⟩) ⟨fb_pure, fun U hU hW => ⟨rfl, congrArg Array.size hU⟩⟩ rfl rfl hl.1 rfl (lv_room (Nat.le_of_ble_eq_true rfl)) dX1_kind_279 ⟨Nat.zero_le _, Nat.zero_le _⟩) hS (fun q _ h => Nat.le_trans hS.1 h) (fun q h => Nat.le_trans hS.1 h) (fun r_36 _ _ H_36 _ _ _ hw _ _ _ hS => ?_)
                  subst hw
                  refine lv_iconst (v := 1) hx hb dX1_kind_282 (by decide) ?_
                  refine lv_icmp_ne (tgt := 305) hx hb dX1_kind_283 (by decide) (fun c_37 => ?_) (fun c_37 => ?_)
                  · -- taken
                    refine lv_iconst (v := 0) hx hb dX1_kind_305 (by decide) ?_
                    exact W.iret (v := (0 : Int32)) hx hb hr (fun t ht hW => ⟨⟨(0 : Int32), (), rfl, by rw [fX1_kind, if_neg c_2, if_neg c_7, if_neg c_12, if_neg c_15, if_neg c_22, if_neg c_24, if_neg c_27, if_pos c_35, if_neg c_37], trivial⟩, hS.F ht⟩) hS.2.2 dX1_kind_306
                  · -- not taken
                    refine lv_iload_n hx hb dX1_kind_286 rfl (lv_at hl 2 rfl) ?_
                    refine va_calli (va_runS (As := [.int p0]) (rest := []) ⟨hx, hb, hml, hown, hts⟩ (mX1_isByRegister l H_36.size p0) (va_cwS 1 hts gX1_kind_X1_isByRegister rfl rfl rfl (by decide +kernel) ⟨Nat.le_of_ble_eq_true rfl, Nat.le_of_ble_eq_true rfl⟩) ⟨fb_pure, fun U hU hW => ⟨rfl, congrArg Array.size hU⟩⟩ rfl rfl hl.1 rfl (lv_room (Nat.le_of_ble_eq_true rfl)) dX1_kind_287 ⟨Nat.zero_le _, Nat.zero_le _⟩) hS (fun q _ h => Nat.le_trans hS.1 h) (fun q h => Nat.le_trans hS.1 h) (fun r_38 _ _ H_38 _ _ _ hw _ _ _ hS => ?_)
                    subst hw
                    refine lv_if_eq (tgt := 305) hx hb dX1_kind_290 (by decide) (fun c_39 => ?_) (fun c_39 => ?_)
                    · -- taken
                      refine lv_iconst (v := 0) hx hb dX1_kind_305 (by decide) ?_
                      exact W.iret (v := (0 : Int32)) hx hb hr (fun t ht hW => ⟨⟨(0 : Int32), (), rfl, by rw [fX1_kind, if_neg c_2, if_neg c_7, if_neg c_12, if_neg c_15, if_neg c_22, if_neg c_24, if_neg c_27, if_pos c_35, if_pos c_37, if_pos c_39], trivial⟩, hS.F ht⟩) hS.2.2 dX1_kind_306
                    · -- not taken
                      refine lv_iload_n hx hb dX1_kind_293 rfl (lv_at hl 2 rfl) ?_
                      refine va_calli (va_runS (As := [.int p0]) (rest := []) ⟨hx, hb, hml, hown, hts⟩ (mX1_isSize l H_38.size p0) (va_cwS 1 hts gX1_kind_X1_isSize rfl rfl rfl (by decide +kernel) ⟨Nat.le_of_ble_eq_true rfl, Nat.le_of_ble_eq_true rfl⟩) ⟨fb_pure, fun U hU hW => ⟨rfl, congrArg Array.size hU⟩⟩ rfl rfl hl.1 rfl (lv_room (Nat.le_of_ble_eq_true rfl)) dX1_kind_294 ⟨Nat.zero_le _, Nat.zero_le _⟩) hS (fun q _ h => Nat.le_trans hS.1 h) (fun q h => Nat.le_trans hS.1 h) (fun r_40 _ _ H_40 _ _ _ hw _ _ _ hS => ?_)
                      subst hw
                      refine lv_if_eq (tgt := 305) hx hb dX1_kind_297 (by decide) (fun c_41 => ?_) (fun c_41 => ?_)
                      · -- taken
                        refine lv_iconst (v := 0) hx hb dX1_kind_305 (by decide) ?_
                        exact W.iret (v := (0 : Int32)) hx hb hr (fun t ht hW => ⟨⟨(0 : Int32), (), rfl, by rw [fX1_kind, if_neg c_2, if_neg c_7, if_neg c_12, if_neg c_15, if_neg c_22, if_neg c_24, if_neg c_27, if_pos c_35, if_pos c_37, if_neg c_39, if_pos c_41], trivial⟩, hS.F ht⟩) hS.2.2 dX1_kind_306
                      · -- not taken
                        refine lv_bipush (v := 10) hx hb dX1_kind_300 (by decide) ?_
                        refine lv_goto (tgt := 306) hx hb dX1_kind_302 (by decide) ?_
                        exact W.iret (v := (10 : Int32)) hx hb hr (fun t ht hW => ⟨⟨(10 : Int32), (), rfl, by rw [fX1_kind, if_neg c_2, if_neg c_7, if_neg c_12, if_neg c_15, if_neg c_22, if_neg c_24, if_neg c_27, if_pos c_35, if_pos c_37, if_neg c_39, if_neg c_41], trivial⟩, hS.F ht⟩) hS.2.2 dX1_kind_306
                · -- another
                  by_cases c_42 : (fX1_bits p0 (24 : Int32) (28 : Int32)) = (25 : Int32)
                  · refine lv_tableIn (off := 297) (tgt := 307) hx hb dX1_kind_10 (by rw [c_42]; decide) (by rw [c_42]; decide) (by rw [c_42]; decide) (by decide) ?_
                    refine lv_iload_n hx hb dX1_kind_307 rfl (lv_at hl 2 rfl) ?_
                    refine lv_bipush (v := 29) hx hb dX1_kind_308 (by decide) ?_
                    refine lv_bipush (v := 29) hx hb dX1_kind_310 (by decide) ?_
                    refine va_calli (va_runS (As := [.int p0, .int (29 : Int32), .int (29 : Int32)]) (rest := []) ⟨hx, hb, hml, hown, hts⟩ (mX1_bits l H_1.size p0 (29 : Int32) (29 : Int32)) (va_cwS 3 hts gX1_kind_X1_bits rfl rfl rfl (by decide +kernel) ⟨Nat.le_of_ble_eq_true rfl, Nat.le_of_ble_eq_true rfl⟩) ⟨fb_pure, fun U hU hW => ⟨rfl, congrArg Array.size hU⟩⟩ rfl rfl hl.1 rfl (lv_room (Nat.le_of_ble_eq_true rfl)) dX1_kind_312 ⟨Nat.zero_le _, Nat.zero_le _⟩) hS (fun q _ h => Nat.le_trans hS.1 h) (fun q h => Nat.le_trans hS.1 h) (fun r_43 _ _ H_43 _ _ _ hw _ _ _ hS => ?_)
                    subst hw
                    refine lv_iconst (v := 1) hx hb dX1_kind_315 (by decide) ?_
                    refine lv_icmp_ne (tgt := 331) hx hb dX1_kind_316 (by decide) (fun c_44 => ?_) (fun c_44 => ?_)
                    · -- taken
                      refine lv_iconst (v := 0) hx hb dX1_kind_331 (by decide) ?_
                      exact W.iret (v := (0 : Int32)) hx hb hr (fun t ht hW => ⟨⟨(0 : Int32), (), rfl, by rw [fX1_kind, if_neg c_2, if_neg c_7, if_neg c_12, if_neg c_15, if_neg c_22, if_neg c_24, if_neg c_27, if_neg c_35, if_pos c_42, if_neg c_44], trivial⟩, hS.F ht⟩) hS.2.2 dX1_kind_332
                    · -- not taken
                      refine lv_iload_n hx hb dX1_kind_319 rfl (lv_at hl 2 rfl) ?_
                      refine va_calli (va_runS (As := [.int p0]) (rest := []) ⟨hx, hb, hml, hown, hts⟩ (mX1_isSize l H_43.size p0) (va_cwS 1 hts gX1_kind_X1_isSize rfl rfl rfl (by decide +kernel) ⟨Nat.le_of_ble_eq_true rfl, Nat.le_of_ble_eq_true rfl⟩) ⟨fb_pure, fun U hU hW => ⟨rfl, congrArg Array.size hU⟩⟩ rfl rfl hl.1 rfl (lv_room (Nat.le_of_ble_eq_true rfl)) dX1_kind_320 ⟨Nat.zero_le _, Nat.zero_le _⟩) hS (fun q _ h => Nat.le_trans hS.1 h) (fun q h => Nat.le_trans hS.1 h) (fun r_45 _ _ H_45 _ _ _ hw _ _ _ hS => ?_)
                      subst hw
                      refine lv_if_eq (tgt := 331) hx hb dX1_kind_323 (by decide) (fun c_46 => ?_) (fun c_46 => ?_)
                      · -- taken
                        refine lv_iconst (v := 0) hx hb dX1_kind_331 (by decide) ?_
                        exact W.iret (v := (0 : Int32)) hx hb hr (fun t ht hW => ⟨⟨(0 : Int32), (), rfl, by rw [fX1_kind, if_neg c_2, if_neg c_7, if_neg c_12, if_neg c_15, if_neg c_22, if_neg c_24, if_neg c_27, if_neg c_35, if_pos c_42, if_pos c_44, if_pos c_46], trivial⟩, hS.F ht⟩) hS.2.2 dX1_kind_332
                      · -- not taken
                        refine lv_bipush (v := 9) hx hb dX1_kind_326 (by decide) ?_
                        refine lv_goto (tgt := 332) hx hb dX1_kind_328 (by decide) ?_
                        exact W.iret (v := (9 : Int32)) hx hb hr (fun t ht hW => ⟨⟨(9 : Int32), (), rfl, by rw [fX1_kind, if_neg c_2, if_neg c_7, if_neg c_12, if_neg c_15, if_neg c_22, if_neg c_24, if_neg c_27, if_neg c_35, if_pos c_42, if_pos c_44, if_neg c_46], trivial⟩, hS.F ht⟩) hS.2.2 dX1_kind_332
                  · -- another
                    by_cases c_47 : (fX1_bits p0 (24 : Int32) (28 : Int32)) = (26 : Int32)
                    · refine lv_tableIn (off := 215) (tgt := 225) hx hb dX1_kind_10 (by rw [c_47]; decide) (by rw [c_47]; decide) (by rw [c_47]; decide) (by decide) ?_
                      refine lv_iload_n hx hb dX1_kind_225 rfl (lv_at hl 2 rfl) ?_
                      refine lv_bipush (v := 29) hx hb dX1_kind_226 (by decide) ?_
                      refine lv_bipush (v := 30) hx hb dX1_kind_228 (by decide) ?_
                      refine va_calli (va_runS (As := [.int p0, .int (29 : Int32), .int (30 : Int32)]) (rest := []) ⟨hx, hb, hml, hown, hts⟩ (mX1_bits l H_1.size p0 (29 : Int32) (30 : Int32)) (va_cwS 3 hts gX1_kind_X1_bits rfl rfl rfl (by decide +kernel) ⟨Nat.le_of_ble_eq_true rfl, Nat.le_of_ble_eq_true rfl⟩) ⟨fb_pure, fun U hU hW => ⟨rfl, congrArg Array.size hU⟩⟩ rfl rfl hl.1 rfl (lv_room (Nat.le_of_ble_eq_true rfl)) dX1_kind_230 ⟨Nat.zero_le _, Nat.zero_le _⟩) hS (fun q _ h => Nat.le_trans hS.1 h) (fun q h => Nat.le_trans hS.1 h) (fun r_48 _ _ H_48 _ _ _ hw _ _ _ hS => ?_)
                      subst hw
                      refine lv_if_le (tgt := 240) hx hb dX1_kind_233 (by decide) (fun c_49 => ?_) (fun c_49 => ?_)
                      · -- taken
                        refine lv_iload_n hx hb dX1_kind_240 rfl (lv_at hl 2 rfl) ?_
                        refine va_calli (va_runS (As := [.int p0]) (rest := []) ⟨hx, hb, hml, hown, hts⟩ (mX1_inTwo l H_48.size p0) (va_cwS 1 hts gX1_kind_X1_inTwo rfl rfl rfl (by decide +kernel) ⟨Nat.le_of_ble_eq_true rfl, Nat.le_of_ble_eq_true rfl⟩) ⟨fb_pure, fun U hU hW => ⟨rfl, congrArg Array.size hU⟩⟩ rfl rfl hl.1 rfl (lv_room (Nat.le_of_ble_eq_true rfl)) dX1_kind_241 ⟨Nat.zero_le _, Nat.zero_le _⟩) hS (fun q _ h => Nat.le_trans hS.1 h) (fun q h => Nat.le_trans hS.1 h) (fun r_50 _ _ H_50 _ _ _ hw _ _ _ hS => ?_)
                        subst hw
                        exact W.iret (v := (fX1_inTwo p0)) hx hb hr (fun t ht hW => ⟨⟨(fX1_inTwo p0), (), rfl, by rw [fX1_kind, if_neg c_2, if_neg c_7, if_neg c_12, if_neg c_15, if_neg c_22, if_neg c_24, if_neg c_27, if_neg c_35, if_neg c_42, if_pos c_47, if_pos c_49], trivial⟩, hS.F ht⟩) hS.2.2 dX1_kind_244
                      · -- not taken
                        refine lv_iconst (v := 0) hx hb dX1_kind_236 (by decide) ?_
                        refine lv_goto (tgt := 244) hx hb dX1_kind_237 (by decide) ?_
                        exact W.iret (v := (0 : Int32)) hx hb hr (fun t ht hW => ⟨⟨(0 : Int32), (), rfl, by rw [fX1_kind, if_neg c_2, if_neg c_7, if_neg c_12, if_neg c_15, if_neg c_22, if_neg c_24, if_neg c_27, if_neg c_35, if_neg c_42, if_pos c_47, if_neg c_49], trivial⟩, hS.F ht⟩) hS.2.2 dX1_kind_244
                    · -- another
                      by_cases c_51 : (fX1_bits p0 (24 : Int32) (28 : Int32)) = (27 : Int32)
                      · refine lv_tableIn (off := 235) (tgt := 245) hx hb dX1_kind_10 (by rw [c_51]; decide) (by rw [c_51]; decide) (by rw [c_51]; decide) (by decide) ?_
                        refine lv_iload_n hx hb dX1_kind_245 rfl (lv_at hl 2 rfl) ?_
                        refine lv_bipush (v := 21) hx hb dX1_kind_246 (by decide) ?_
                        refine lv_bipush (v := 23) hx hb dX1_kind_248 (by decide) ?_
                        refine va_calli (va_runS (As := [.int p0, .int (21 : Int32), .int (23 : Int32)]) (rest := []) ⟨hx, hb, hml, hown, hts⟩ (mX1_bits l H_1.size p0 (21 : Int32) (23 : Int32)) (va_cwS 3 hts gX1_kind_X1_bits rfl rfl rfl (by decide +kernel) ⟨Nat.le_of_ble_eq_true rfl, Nat.le_of_ble_eq_true rfl⟩) ⟨fb_pure, fun U hU hW => ⟨rfl, congrArg Array.size hU⟩⟩ rfl rfl hl.1 rfl (lv_room (Nat.le_of_ble_eq_true rfl)) dX1_kind_250 ⟨Nat.zero_le _, Nat.zero_le _⟩) hS (fun q _ h => Nat.le_trans hS.1 h) (fun q h => Nat.le_trans hS.1 h) (fun r_52 _ _ H_52 _ _ _ hw _ _ _ hS => ?_)
                        subst hw
                        refine lv_if_ne (tgt := 272) hx hb dX1_kind_253 (by decide) (fun c_53 => ?_) (fun c_53 => ?_)
                        · -- taken
                          refine lv_iconst (v := 0) hx hb dX1_kind_272 (by decide) ?_
                          exact W.iret (v := (0 : Int32)) hx hb hr (fun t ht hW => ⟨⟨(0 : Int32), (), rfl, by rw [fX1_kind, if_neg c_2, if_neg c_7, if_neg c_12, if_neg c_15, if_neg c_22, if_neg c_24, if_neg c_27, if_neg c_35, if_neg c_42, if_neg c_47, if_pos c_51, if_neg c_53], trivial⟩, hS.F ht⟩) hS.2.2 dX1_kind_273
                        · -- not taken
                          refine lv_iload_n hx hb dX1_kind_256 rfl (lv_at hl 2 rfl) ?_
                          refine lv_bipush (v := 29) hx hb dX1_kind_257 (by decide) ?_
                          refine lv_bipush (v := 30) hx hb dX1_kind_259 (by decide) ?_
                          refine va_calli (va_runS (As := [.int p0, .int (29 : Int32), .int (30 : Int32)]) (rest := []) ⟨hx, hb, hml, hown, hts⟩ (mX1_bits l H_52.size p0 (29 : Int32) (30 : Int32)) (va_cwS 3 hts gX1_kind_X1_bits rfl rfl rfl (by decide +kernel) ⟨Nat.le_of_ble_eq_true rfl, Nat.le_of_ble_eq_true rfl⟩) ⟨fb_pure, fun U hU hW => ⟨rfl, congrArg Array.size hU⟩⟩ rfl rfl hl.1 rfl (lv_room (Nat.le_of_ble_eq_true rfl)) dX1_kind_261 ⟨Nat.zero_le _, Nat.zero_le _⟩) hS (fun q _ h => Nat.le_trans hS.1 h) (fun q h => Nat.le_trans hS.1 h) (fun r_54 _ _ H_54 _ _ _ hw _ _ _ hS => ?_)
                          subst hw
                          refine lv_if_ne (tgt := 272) hx hb dX1_kind_264 (by decide) (fun c_55 => ?_) (fun c_55 => ?_)
                          · -- taken
                            refine lv_iconst (v := 0) hx hb dX1_kind_272 (by decide) ?_
                            exact W.iret (v := (0 : Int32)) hx hb hr (fun t ht hW => ⟨⟨(0 : Int32), (), rfl, by rw [fX1_kind, if_neg c_2, if_neg c_7, if_neg c_12, if_neg c_15, if_neg c_22, if_neg c_24, if_neg c_27, if_neg c_35, if_neg c_42, if_neg c_47, if_pos c_51, if_pos c_53, if_neg c_55], trivial⟩, hS.F ht⟩) hS.2.2 dX1_kind_273
                          · -- not taken
                            refine lv_bipush (v := 6) hx hb dX1_kind_267 (by decide) ?_
                            refine lv_goto (tgt := 273) hx hb dX1_kind_269 (by decide) ?_
                            exact W.iret (v := (6 : Int32)) hx hb hr (fun t ht hW => ⟨⟨(6 : Int32), (), rfl, by rw [fX1_kind, if_neg c_2, if_neg c_7, if_neg c_12, if_neg c_15, if_neg c_22, if_neg c_24, if_neg c_27, if_neg c_35, if_neg c_42, if_neg c_47, if_pos c_51, if_pos c_53, if_pos c_55], trivial⟩, hS.F ht⟩) hS.2.2 dX1_kind_273
                      · -- another
                        refine sw_def (tgt := 360) hx hb dX1_kind_10 (by decide) (fun k hk => by
                            have e_0 := lv_neT c_2 (a := 8) (by decide); have e_1 := lv_neT c_7 (a := 9) (by decide); have e_2 := lv_neT c_12 (a := 10) (by decide); have e_3 := lv_neT c_15 (a := 11) (by decide); have e_4 := lv_neT c_22 (a := 16) (by decide); have e_5 := lv_neT c_24 (a := 17) (by decide); have e_6 := lv_neT c_27 (a := 18) (by decide); have e_7 := lv_neT c_35 (a := 24) (by decide); have e_8 := lv_neT c_42 (a := 25) (by decide); have e_9 := lv_neT c_47 (a := 26) (by decide); have e_10 := lv_neT c_51 (a := 27) (by decide)
                            rcases (show k = 0 ∨ k = 1 ∨ k = 2 ∨ k = 3 ∨ k = 4 ∨ k = 5 ∨ k = 6 ∨ k = 7 ∨ k = 8 ∨ k = 9 ∨ k = 10 ∨ k = 11 ∨ k = 12 ∨ k = 13 ∨ k = 14 ∨ k = 15 ∨ k = 16 ∨ k = 17 ∨ k = 18 ∨ k = 19 from by have hk9 : k < 20 := hk; omega) with rfl | rfl | rfl | rfl | rfl | rfl | rfl | rfl | rfl | rfl | rfl | rfl | rfl | rfl | rfl | rfl | rfl | rfl | rfl | rfl <;> first | exact Or.inl rfl | exact Or.inr (by omega)) (by decide) ?_
                        refine lv_aload_n hx hb dX1_kind_360 rfl (lv_at hl 1 rfl) ?_
                        refine lv_iload_n hx hb dX1_kind_361 rfl (lv_at hl 2 rfl) ?_
                        refine va_calli (va_runV (As := [.int p0]) (rest := []) ⟨hx, hb, hml, hown, hts⟩ (mX1_jumps l H_1.size h0 p0) (cwV 1 hts gX1_kind_X1_jumps rfl rfl rfl (by decide +kernel) ⟨Nat.le_of_ble_eq_true rfl, Nat.le_of_ble_eq_true rfl⟩) ⟨fb_rr, hww.at hS, fun U hU hW => ⟨rfl, congrArg Array.size hU, hww.go hS hU hW.alike⟩⟩ rfl rfl hl.1 rfl (lv_room (Nat.le_of_ble_eq_true rfl)) dX1_kind_362 ⟨Nat.zero_le _, Nat.zero_le _⟩) hS (fun q _ h => Nat.le_trans hS.1 h) (fun q h => Nat.le_trans hS.1 h) (fun r_56 _ _ H_56 _ _ _ hw _ _ _ hS => ?_)
                        subst hw
                        exact W.iret (v := (fX1_jumps p0)) hx hb hr (fun t ht hW => ⟨⟨(fX1_jumps p0), (), rfl, by rw [fX1_kind, if_neg c_2, if_neg c_7, if_neg c_12, if_neg c_15, if_neg c_22, if_neg c_24, if_neg c_27, if_neg c_35, if_neg c_42, if_neg c_47, if_neg c_51], trivial⟩, hS.F ht⟩) hS.2.2 dX1_kind_365
end
section
set_option maxHeartbeats 4000000 in
set_option maxRecDepth 100000 in
theorem mX1_reach (l : Launch) (sz : Nat) (p0 : Int32) : Met l yX1_reach wsX1_reach ({ frames := 0, cells := 0, slots := 0, locals := 0 }) (va_Pc [.int p0] (fun U => U.heap.size = sz)) (va_Qi (fun (r : Int32) (_ : Unit) => r = fX1_reach p0) (fun _ _ => True) (fun q : Nat => sz ≤ q)) 0 0 (fun q : Nat => sz ≤ q) := by
  refine Met.ofW (cc := cX1_reach) (maxL := 1) (ret := (some .int)) (by decide) rfl ?_
  intro p e s m args below meth c s₁ B hml hv
  obtain ⟨rfl, hsz⟩ := hv
  have hx := B.exec
  have hb := B.bytes
  have hr := B.returns
  have hts := atoms_spec (ws := wsX1_reach) B.pre
  have hown : s.vm.findClass RX1 = some m.cls := findClass_of_methodNamed B.named
  have hlocks := B.notSynchronized
  subst hsz
  have hS : va_S (fun q : Nat => s.heap.size ≤ q) s.heap s.heap [] := va_S.rf
  have hl := lv_entry ([.int p0]) (n := 1) (Nat.le_of_ble_eq_true rfl)
  rw [lg_entry_eq]
  generalize (lg_sl ([.int p0]) ++ List.replicate (1 - (lg_sl ([.int p0])).length) Slot.unset).toArray = ls at hl ⊢
  have hl : lv_has ls 1 [(0, .int p0)] := hl
  refine lv_iload_n hx hb dX1_reach_0 rfl (lv_at hl 0 rfl) ?_
  refine lv_bipush (v := 12) hx hb dX1_reach_1 (by decide) ?_
  refine lv_icmp_eq (tgt := 12) hx hb dX1_reach_3 (by decide) (fun c_1 => ?_) (fun c_1 => ?_)
  · -- taken
    refine lv_ldc hx hb hown (hts (.constant RX1 37 (134217728)) (by decide +kernel)) dX1_reach_12 ?_
    refine lv_goto (tgt := 46) hx hb dX1_reach_14 (by decide) ?_
    exact W.iret (v := (134217728 : Int32)) hx hb hr (fun t ht hW => ⟨⟨(134217728 : Int32), (), rfl, by rw [fX1_reach, if_pos c_1], trivial⟩, hS.F ht⟩) hS.2.2 dX1_reach_46
  · -- not taken
    refine lv_iload_n hx hb dX1_reach_6 rfl (lv_at hl 0 rfl) ?_
    refine lv_bipush (v := 13) hx hb dX1_reach_7 (by decide) ?_
    refine lv_icmp_ne (tgt := 17) hx hb dX1_reach_9 (by decide) (fun c_2 => ?_) (fun c_2 => ?_)
    · -- taken
      refine lv_iload_n hx hb dX1_reach_17 rfl (lv_at hl 0 rfl) ?_
      refine lv_bipush (v := 14) hx hb dX1_reach_18 (by decide) ?_
      refine lv_icmp_eq (tgt := 29) hx hb dX1_reach_20 (by decide) (fun c_3 => ?_) (fun c_3 => ?_)
      · -- taken
        refine lv_ldc hx hb hown (hts (.constant RX1 38 (1048576)) (by decide +kernel)) dX1_reach_29 ?_
        refine lv_goto (tgt := 46) hx hb dX1_reach_31 (by decide) ?_
        exact W.iret (v := (1048576 : Int32)) hx hb hr (fun t ht hW => ⟨⟨(1048576 : Int32), (), rfl, by rw [fX1_reach, if_neg c_1, if_neg c_2, if_pos c_3], trivial⟩, hS.F ht⟩) hS.2.2 dX1_reach_46
      · -- not taken
        refine lv_iload_n hx hb dX1_reach_23 rfl (lv_at hl 0 rfl) ?_
        refine lv_bipush (v := 15) hx hb dX1_reach_24 (by decide) ?_
        refine lv_icmp_ne (tgt := 34) hx hb dX1_reach_26 (by decide) (fun c_4 => ?_) (fun c_4 => ?_)
        · -- taken
          refine lv_iload_n hx hb dX1_reach_34 rfl (lv_at hl 0 rfl) ?_
          refine lv_bipush (v := 16) hx hb dX1_reach_35 (by decide) ?_
          refine lv_icmp_ne (tgt := 45) hx hb dX1_reach_37 (by decide) (fun c_5 => ?_) (fun c_5 => ?_)
          · -- taken
            refine lv_iconst (v := 0) hx hb dX1_reach_45 (by decide) ?_
            exact W.iret (v := (0 : Int32)) hx hb hr (fun t ht hW => ⟨⟨(0 : Int32), (), rfl, by rw [fX1_reach, if_neg c_1, if_neg c_2, if_neg c_3, if_neg c_4, if_neg c_5], trivial⟩, hS.F ht⟩) hS.2.2 dX1_reach_46
          · -- not taken
            refine lv_ldc hx hb hown (hts (.constant RX1 39 (32768)) (by decide +kernel)) dX1_reach_40 ?_
            refine lv_goto (tgt := 46) hx hb dX1_reach_42 (by decide) ?_
            exact W.iret (v := (32768 : Int32)) hx hb hr (fun t ht hW => ⟨⟨(32768 : Int32), (), rfl, by rw [fX1_reach, if_neg c_1, if_neg c_2, if_neg c_3, if_neg c_4, if_pos c_5], trivial⟩, hS.F ht⟩) hS.2.2 dX1_reach_46
        · -- not taken
          refine lv_ldc hx hb hown (hts (.constant RX1 38 (1048576)) (by decide +kernel)) dX1_reach_29 ?_
          refine lv_goto (tgt := 46) hx hb dX1_reach_31 (by decide) ?_
          exact W.iret (v := (1048576 : Int32)) hx hb hr (fun t ht hW => ⟨⟨(1048576 : Int32), (), rfl, by rw [fX1_reach, if_neg c_1, if_neg c_2, if_neg c_3, if_pos c_4], trivial⟩, hS.F ht⟩) hS.2.2 dX1_reach_46
    · -- not taken
      refine lv_ldc hx hb hown (hts (.constant RX1 37 (134217728)) (by decide +kernel)) dX1_reach_12 ?_
      refine lv_goto (tgt := 46) hx hb dX1_reach_14 (by decide) ?_
      exact W.iret (v := (134217728 : Int32)) hx hb hr (fun t ht hW => ⟨⟨(134217728 : Int32), (), rfl, by rw [fX1_reach, if_neg c_1, if_pos c_2], trivial⟩, hS.F ht⟩) hS.2.2 dX1_reach_46
set_option maxHeartbeats 4000000 in
set_option maxRecDepth 100000 in
theorem mX1_by (l : Launch) (sz : Nat) (h0 : Nat) (p0 : Int32) : Met l yX1_by wsX1_by ({ frames := 4, cells := 0, slots := 0, locals := 88 }) (va_Pc [.ref h0, .int p0] (fun U => U.heap.size = sz ∧ wv_rcv RX1 h0 U)) (va_Qi (fun (r : Int32) (_ : Unit) => r = fX1_by p0) (fun _ _ => True) (fun q : Nat => sz ≤ q)) 0 0 (fun q : Nat => sz ≤ q) := by
  refine Met.ofW (cc := cX1_by) (maxL := 3) (ret := (some .int)) (by decide) rfl ?_
  intro p e s m args below meth c s₁ B hml hv
  obtain ⟨rfl, hsz, hww⟩ := hv
  have hx := B.exec
  have hb := B.bytes
  have hr := B.returns
  have hts := atoms_spec (ws := wsX1_by) B.pre
  have hown : s.vm.findClass RX1 = some m.cls := findClass_of_methodNamed B.named
  have hlocks := B.notSynchronized
  subst hsz
  have hS : va_S (fun q : Nat => s.heap.size ≤ q) s.heap s.heap [] := va_S.rf
  have hl := lv_entry ([.ref h0, .int p0]) (n := 3) (Nat.le_of_ble_eq_true rfl)
  rw [lg_entry_eq]
  generalize (lg_sl ([.ref h0, .int p0]) ++ List.replicate (3 - (lg_sl ([.ref h0, .int p0])).length) Slot.unset).toArray = ls at hl ⊢
  have hl : lv_has ls 3 [(0, .ref h0), (1, .int p0)] := hl
  refine lv_aload_n hx hb dX1_by_0 rfl (lv_at hl 0 rfl) ?_
  refine lv_iload_n hx hb dX1_by_1 rfl (lv_at hl 1 rfl) ?_
  refine va_calli (va_runV (As := [.int p0]) (rest := []) ⟨hx, hb, hml, hown, hts⟩ (mX1_kind l s.heap.size h0 p0) (cwV 1 hts gX1_by_X1_kind rfl rfl rfl (by decide +kernel) ⟨Nat.le_of_ble_eq_true rfl, Nat.le_of_ble_eq_true rfl⟩) ⟨fb_rr, hww.at hS, fun U hU hW => ⟨rfl, congrArg Array.size hU, hww.go hS hU hW.alike⟩⟩ rfl rfl hl.1 rfl (lv_room (Nat.le_of_ble_eq_true rfl)) dX1_by_2 ⟨Nat.zero_le _, Nat.zero_le _⟩) hS (fun q _ h => Nat.le_trans hS.1 h) (fun q h => Nat.le_trans hS.1 h) (fun r_1 _ _ H_1 _ _ _ hw _ _ _ hS => ?_)
  subst hw
  refine lv_istore_n (lv' := [(2, .int (fX1_kind p0)), (0, .ref h0), (1, .int p0)]) hx hb dX1_by_5 rfl hl (by decide) rfl (fun ls hl => ?_)
  refine lv_iload_n hx hb dX1_by_6 rfl (lv_at hl 0 rfl) ?_
  refine lv_bipush (v := 12) hx hb dX1_by_7 (by decide) ?_
  refine lv_icmp_lt (tgt := 18) hx hb dX1_by_9 (by decide) (fun c_2 => ?_) (fun c_2 => ?_)
  · -- taken
    refine lv_iconst (v := 1) hx hb dX1_by_18 (by decide) ?_
    exact W.iret (v := (1 : Int32)) hx hb hr (fun t ht hW => ⟨⟨(1 : Int32), (), rfl, by rw [fX1_by, if_pos c_2], trivial⟩, hS.F ht⟩) hS.2.2 dX1_by_19
  · -- not taken
    refine lv_iload_n hx hb dX1_by_12 rfl (lv_at hl 0 rfl) ?_
    refine lv_bipush (v := 16) hx hb dX1_by_13 (by decide) ?_
    refine lv_icmp_le (tgt := 20) hx hb dX1_by_15 (by decide) (fun c_3 => ?_) (fun c_3 => ?_)
    · -- taken
      refine lv_iconst (v := 4) hx hb dX1_by_20 (by decide) ?_
      refine lv_iload_n hx hb dX1_by_21 rfl (lv_at hl 0 rfl) ?_
      refine lv_bipush (v := 14) hx hb dX1_by_22 (by decide) ?_
      refine lv_icmp_ge (tgt := 37) hx hb dX1_by_24 (by decide) (fun c_4 => ?_) (fun c_4 => ?_)
      · -- taken
        refine lv_iload_n hx hb dX1_by_37 rfl (lv_at hl 0 rfl) ?_
        refine lv_bipush (v := 16) hx hb dX1_by_38 (by decide) ?_
        refine lv_icmp_ge (tgt := 53) hx hb dX1_by_40 (by decide) (fun c_5 => ?_) (fun c_5 => ?_)
        · -- taken
          refine lv_iload_n hx hb dX1_by_53 rfl (lv_at hl 2 rfl) ?_
          refine lv_iconst (v := 5) hx hb dX1_by_54 (by decide) ?_
          refine lv_bipush (v := 18) hx hb dX1_by_55 (by decide) ?_
          refine va_calli (va_runS (As := [.int p0, .int (5 : Int32), .int (18 : Int32)]) (rest := [.int (4 : Int32)]) ⟨hx, hb, hml, hown, hts⟩ (mX1_signed l H_1.size p0 (5 : Int32) (18 : Int32)) (va_cwS 3 hts gX1_by_X1_signed rfl rfl rfl (by decide +kernel) ⟨Nat.le_of_ble_eq_true rfl, Nat.le_of_ble_eq_true rfl⟩) ⟨fb_pure, fun U hU hW => ⟨rfl, congrArg Array.size hU⟩⟩ rfl rfl hl.1 rfl (lv_room (Nat.le_of_ble_eq_true rfl)) dX1_by_57 ⟨Nat.zero_le _, Nat.zero_le _⟩) hS (fun q _ h => Nat.le_trans hS.1 h) (fun q h => Nat.le_trans hS.1 h) (fun r_6 _ _ H_6 _ _ _ hw _ _ _ hS => ?_)
          subst hw
          refine lv_imul hx hb dX1_by_60 ?_
          exact W.iret (v := ((4 : Int32) * (fX1_signed p0 (5 : Int32) (18 : Int32)))) hx hb hr (fun t ht hW => ⟨⟨((4 : Int32) * (fX1_signed p0 (5 : Int32) (18 : Int32))), (), rfl, by rw [fX1_by, if_neg c_2, if_pos c_3, if_pos c_4, if_pos c_5], trivial⟩, hS.F ht⟩) hS.2.2 dX1_by_61
        · -- not taken
          refine lv_iload_n hx hb dX1_by_43 rfl (lv_at hl 2 rfl) ?_
          refine lv_iconst (v := 5) hx hb dX1_by_44 (by decide) ?_
          refine lv_bipush (v := 23) hx hb dX1_by_45 (by decide) ?_
          refine va_calli (va_runS (As := [.int p0, .int (5 : Int32), .int (23 : Int32)]) (rest := [.int (4 : Int32)]) ⟨hx, hb, hml, hown, hts⟩ (mX1_signed l H_1.size p0 (5 : Int32) (23 : Int32)) (va_cwS 3 hts gX1_by_X1_signed rfl rfl rfl (by decide +kernel) ⟨Nat.le_of_ble_eq_true rfl, Nat.le_of_ble_eq_true rfl⟩) ⟨fb_pure, fun U hU hW => ⟨rfl, congrArg Array.size hU⟩⟩ rfl rfl hl.1 rfl (lv_room (Nat.le_of_ble_eq_true rfl)) dX1_by_47 ⟨Nat.zero_le _, Nat.zero_le _⟩) hS (fun q _ h => Nat.le_trans hS.1 h) (fun q h => Nat.le_trans hS.1 h) (fun r_7 _ _ H_7 _ _ _ hw _ _ _ hS => ?_)
          subst hw
          refine lv_goto (tgt := 60) hx hb dX1_by_50 (by decide) ?_
          refine lv_imul hx hb dX1_by_60 ?_
          exact W.iret (v := ((4 : Int32) * (fX1_signed p0 (5 : Int32) (23 : Int32)))) hx hb hr (fun t ht hW => ⟨⟨((4 : Int32) * (fX1_signed p0 (5 : Int32) (23 : Int32))), (), rfl, by rw [fX1_by, if_neg c_2, if_pos c_3, if_pos c_4, if_neg c_5], trivial⟩, hS.F ht⟩) hS.2.2 dX1_by_61
      · -- not taken
        refine lv_iload_n hx hb dX1_by_27 rfl (lv_at hl 2 rfl) ?_
        refine lv_iconst (v := 0) hx hb dX1_by_28 (by decide) ?_
        refine lv_bipush (v := 25) hx hb dX1_by_29 (by decide) ?_
        refine va_calli (va_runS (As := [.int p0, .int (0 : Int32), .int (25 : Int32)]) (rest := [.int (4 : Int32)]) ⟨hx, hb, hml, hown, hts⟩ (mX1_signed l H_1.size p0 (0 : Int32) (25 : Int32)) (va_cwS 3 hts gX1_by_X1_signed rfl rfl rfl (by decide +kernel) ⟨Nat.le_of_ble_eq_true rfl, Nat.le_of_ble_eq_true rfl⟩) ⟨fb_pure, fun U hU hW => ⟨rfl, congrArg Array.size hU⟩⟩ rfl rfl hl.1 rfl (lv_room (Nat.le_of_ble_eq_true rfl)) dX1_by_31 ⟨Nat.zero_le _, Nat.zero_le _⟩) hS (fun q _ h => Nat.le_trans hS.1 h) (fun q h => Nat.le_trans hS.1 h) (fun r_8 _ _ H_8 _ _ _ hw _ _ _ hS => ?_)
        subst hw
        refine lv_goto (tgt := 60) hx hb dX1_by_34 (by decide) ?_
        refine lv_imul hx hb dX1_by_60 ?_
        exact W.iret (v := ((4 : Int32) * (fX1_signed p0 (0 : Int32) (25 : Int32)))) hx hb hr (fun t ht hW => ⟨⟨((4 : Int32) * (fX1_signed p0 (0 : Int32) (25 : Int32))), (), rfl, by rw [fX1_by, if_neg c_2, if_pos c_3, if_neg c_4], trivial⟩, hS.F ht⟩) hS.2.2 dX1_by_61
    · -- not taken
      refine lv_iconst (v := 1) hx hb dX1_by_18 (by decide) ?_
      exact W.iret (v := (1 : Int32)) hx hb hr (fun t ht hW => ⟨⟨(1 : Int32), (), rfl, by rw [fX1_by, if_neg c_2, if_neg c_3], trivial⟩, hS.F ht⟩) hS.2.2 dX1_by_19
set_option maxHeartbeats 4000000 in
set_option maxRecDepth 100000 in
theorem mX1_reaches (l : Launch) (sz : Nat) (h0 : Nat) (p0 : Int32) (p1 : Int64) : Met l yX1_reaches wsX1_reaches ({ frames := 4, cells := 0, slots := 0, locals := 88 }) (va_Pc [.ref h0, .int p0, .long p1] (fun U => U.heap.size = sz ∧ wv_rcv RX1 h0 U)) (va_Qi (fun (r : Int32) (_ : Unit) => r = fX1_reaches p0 p1) (fun _ _ => True) (fun q : Nat => sz ≤ q)) 0 0 (fun q : Nat => sz ≤ q) := by
  refine Met.ofW (cc := cX1_reaches) (maxL := 5) (ret := (some .boolean)) (by decide) rfl ?_
  intro p e s m args below meth c s₁ B hml hv
  obtain ⟨rfl, hsz, hww⟩ := hv
  have hx := B.exec
  have hb := B.bytes
  have hr := B.returns
  have hts := atoms_spec (ws := wsX1_reaches) B.pre
  have hown : s.vm.findClass RX1 = some m.cls := findClass_of_methodNamed B.named
  have hlocks := B.notSynchronized
  subst hsz
  have hS : va_S (fun q : Nat => s.heap.size ≤ q) s.heap s.heap [] := va_S.rf
  have hl := lv_entry ([.ref h0, .int p0, .long p1]) (n := 5) (Nat.le_of_ble_eq_true rfl)
  rw [lg_entry_eq]
  generalize (lg_sl ([.ref h0, .int p0, .long p1]) ++ List.replicate (5 - (lg_sl ([.ref h0, .int p0, .long p1])).length) Slot.unset).toArray = ls at hl ⊢
  have hl : lv_has ls 5 [(0, .ref h0), (1, .int p0), (2, .long p1)] := hl
  refine lv_aload_n hx hb dX1_reaches_0 rfl (lv_at hl 0 rfl) ?_
  refine lv_iload_n hx hb dX1_reaches_1 rfl (lv_at hl 1 rfl) ?_
  refine va_calli (va_runV (As := [.int p0]) (rest := []) ⟨hx, hb, hml, hown, hts⟩ (mX1_kind l s.heap.size h0 p0) (cwV 1 hts gX1_reaches_X1_kind rfl rfl rfl (by decide +kernel) ⟨Nat.le_of_ble_eq_true rfl, Nat.le_of_ble_eq_true rfl⟩) ⟨fb_rr, hww.at hS, fun U hU hW => ⟨rfl, congrArg Array.size hU, hww.go hS hU hW.alike⟩⟩ rfl rfl hl.1 rfl (lv_room (Nat.le_of_ble_eq_true rfl)) dX1_reaches_2 ⟨Nat.zero_le _, Nat.zero_le _⟩) hS (fun q _ h => Nat.le_trans hS.1 h) (fun q h => Nat.le_trans hS.1 h) (fun r_1 _ _ H_1 _ _ _ hw _ _ _ hS => ?_)
  subst hw
  refine va_calli (va_runS (As := [.int (fX1_kind p0)]) (rest := []) ⟨hx, hb, hml, hown, hts⟩ (mX1_reach l H_1.size (fX1_kind p0)) (va_cwS 1 hts gX1_reaches_X1_reach rfl rfl rfl (by decide +kernel) ⟨Nat.le_of_ble_eq_true rfl, Nat.le_of_ble_eq_true rfl⟩) ⟨fb_pure, fun U hU hW => ⟨rfl, congrArg Array.size hU⟩⟩ rfl rfl hl.1 rfl (lv_room (Nat.le_of_ble_eq_true rfl)) dX1_reaches_5 ⟨Nat.zero_le _, Nat.zero_le _⟩) hS (fun q _ h => Nat.le_trans hS.1 h) (fun q h => Nat.le_trans hS.1 h) (fun r_2 _ _ H_2 _ _ _ hw _ _ _ hS => ?_)
  subst hw
  refine lv_istore (lv' := [(4, .int (fX1_reach (fX1_kind p0))), (0, .ref h0), (1, .int p0), (2, .long p1)]) hx hb dX1_reaches_8 hl (by decide) rfl (fun ls hl => ?_)
  refine lv_iload hx hb dX1_reaches_10 (lv_at hl 0 rfl) ?_
  refine lv_if_le (tgt := 46) hx hb dX1_reaches_12 (by decide) (fun c_3 => ?_) (fun c_3 => ?_)
  · -- taken
    refine lv_iconst (v := 0) hx hb dX1_reaches_46 (by decide) ?_
    exact W.zret (v := (0 : Int32)) hx hb hr (nb_01 (Or.inl rfl)) (fun t ht hW => ⟨⟨(0 : Int32), (), rfl, by rw [fX1_reaches, if_pos c_3], trivial⟩, hS.F ht⟩) hS.2.2 dX1_reaches_47
  · -- not taken
    refine lv_lload_n hx hb dX1_reaches_15 rfl (lv_at hl 3 rfl) ?_
    refine lv_ldc2 hx hb hown (hts (.constantLong RX1 49 (4)) (by decide +kernel)) dX1_reaches_16 ?_
    refine lv_lrem hx hb dX1_reaches_19 (by decide) ?_
    refine lv_lconst (v := 0) hx hb dX1_reaches_20 (by decide) ?_
    refine W.lcmp hx hb dX1_reaches_21 ?_
    refine lv_if_ne (tgt := 46) hx hb dX1_reaches_22 (by decide) (fun c_4 => ?_) (fun c_4 => ?_)
    · -- taken
      refine lv_iconst (v := 0) hx hb dX1_reaches_46 (by decide) ?_
      exact W.zret (v := (0 : Int32)) hx hb hr (nb_01 (Or.inl rfl)) (fun t ht hW => ⟨⟨(0 : Int32), (), rfl, by rw [fX1_reaches, if_neg c_3, if_neg c_4], trivial⟩, hS.F ht⟩) hS.2.2 dX1_reaches_47
    · -- not taken
      refine lv_lload_n hx hb dX1_reaches_25 rfl (lv_at hl 3 rfl) ?_
      refine lv_iload hx hb dX1_reaches_26 (lv_at hl 0 rfl) ?_
      refine lv_ineg hx hb dX1_reaches_28 ?_
      refine lv_i2l hx hb dX1_reaches_29 rfl ?_
      refine W.lcmp hx hb dX1_reaches_30 ?_
      refine lv_if_lt (tgt := 46) hx hb dX1_reaches_31 (by decide) (fun c_5 => ?_) (fun c_5 => ?_)
      · -- taken
        refine lv_iconst (v := 0) hx hb dX1_reaches_46 (by decide) ?_
        exact W.zret (v := (0 : Int32)) hx hb hr (nb_01 (Or.inl rfl)) (fun t ht hW => ⟨⟨(0 : Int32), (), rfl, by rw [fX1_reaches, if_neg c_3, if_pos c_4, if_pos c_5], trivial⟩, hS.F ht⟩) hS.2.2 dX1_reaches_47
      · -- not taken
        refine lv_lload_n hx hb dX1_reaches_34 rfl (lv_at hl 3 rfl) ?_
        refine lv_iload hx hb dX1_reaches_35 (lv_at hl 0 rfl) ?_
        refine lv_i2l hx hb dX1_reaches_37 rfl ?_
        refine W.lcmp hx hb dX1_reaches_38 ?_
        refine lv_if_ge (tgt := 46) hx hb dX1_reaches_39 (by decide) (fun c_6 => ?_) (fun c_6 => ?_)
        · -- taken
          refine lv_iconst (v := 0) hx hb dX1_reaches_46 (by decide) ?_
          exact W.zret (v := (0 : Int32)) hx hb hr (nb_01 (Or.inl rfl)) (fun t ht hW => ⟨⟨(0 : Int32), (), rfl, by rw [fX1_reaches, if_neg c_3, if_pos c_4, if_neg c_5, if_pos c_6], trivial⟩, hS.F ht⟩) hS.2.2 dX1_reaches_47
        · -- not taken
          refine lv_iconst (v := 1) hx hb dX1_reaches_42 (by decide) ?_
          refine lv_goto (tgt := 47) hx hb dX1_reaches_43 (by decide) ?_
          exact W.zret (v := (1 : Int32)) hx hb hr (nb_01 (Or.inr rfl)) (fun t ht hW => ⟨⟨(1 : Int32), (), rfl, by rw [fX1_reaches, if_neg c_3, if_pos c_4, if_neg c_5, if_neg c_6], trivial⟩, hS.F ht⟩) hS.2.2 dX1_reaches_47
set_option maxHeartbeats 4000000 in
set_option maxRecDepth 100000 in
theorem mX1_going (l : Launch) (sz : Nat) (h0 : Nat) (p0 : Int32) (p1 : Int32) : Met l yX1_going wsX1_going ({ frames := 5, cells := 0, slots := 0, locals := 112 }) (va_Pc [.ref h0, .int p0, .int p1] (fun U => U.heap.size = sz ∧ wv_rcv RX1 h0 U)) (va_Qi (fun (r : Int32) (_ : Unit) => r = fX1_going p0 p1) (fun _ _ => True) (fun q : Nat => sz ≤ q)) 0 0 (fun q : Nat => sz ≤ q) := by
  refine Met.ofW (cc := cX1_going) (maxL := 6) (ret := (some .int)) (by decide) rfl ?_
  intro p e s m args below meth c s₁ B hml hv
  obtain ⟨rfl, hsz, hww⟩ := hv
  have hx := B.exec
  have hb := B.bytes
  have hr := B.returns
  have hts := atoms_spec (ws := wsX1_going) B.pre
  have hown : s.vm.findClass RX1 = some m.cls := findClass_of_methodNamed B.named
  have hlocks := B.notSynchronized
  subst hsz
  have hS : va_S (fun q : Nat => s.heap.size ≤ q) s.heap s.heap [] := va_S.rf
  have hl := lv_entry ([.ref h0, .int p0, .int p1]) (n := 6) (Nat.le_of_ble_eq_true rfl)
  rw [lg_entry_eq]
  generalize (lg_sl ([.ref h0, .int p0, .int p1]) ++ List.replicate (6 - (lg_sl ([.ref h0, .int p0, .int p1])).length) Slot.unset).toArray = ls at hl ⊢
  have hl : lv_has ls 6 [(0, .ref h0), (1, .int p0), (2, .int p1)] := hl
  refine lv_aload_n hx hb dX1_going_0 rfl (lv_at hl 0 rfl) ?_
  refine lv_iload_n hx hb dX1_going_1 rfl (lv_at hl 1 rfl) ?_
  refine lv_iload_n hx hb dX1_going_2 rfl (lv_at hl 2 rfl) ?_
  refine lv_i2l hx hb dX1_going_3 rfl ?_
  refine va_calli (va_runV (As := [.int p0, .long ((p1).toInt64)]) (rest := []) ⟨hx, hb, hml, hown, hts⟩ (mX1_reaches l s.heap.size h0 p0 ((p1).toInt64)) (cwV 2 hts gX1_going_X1_reaches rfl rfl rfl (by decide +kernel) ⟨Nat.le_of_ble_eq_true rfl, Nat.le_of_ble_eq_true rfl⟩) ⟨fb_rr, hww.at hS, fun U hU hW => ⟨rfl, congrArg Array.size hU, hww.go hS hU hW.alike⟩⟩ rfl rfl hl.1 rfl (lv_room (Nat.le_of_ble_eq_true rfl)) dX1_going_4 ⟨Nat.zero_le _, Nat.zero_le _⟩) hS (fun q _ h => Nat.le_trans hS.1 h) (fun q h => Nat.le_trans hS.1 h) (fun r_1 _ _ H_1 _ _ _ hw _ _ _ hS => ?_)
  subst hw
  refine lv_if_ne (tgt := 12) hx hb dX1_going_7 (by decide) (fun c_2 => ?_) (fun c_2 => ?_)
  · -- taken
    refine lv_aload_n hx hb dX1_going_12 rfl (lv_at hl 0 rfl) ?_
    refine lv_iload_n hx hb dX1_going_13 rfl (lv_at hl 1 rfl) ?_
    refine va_calli (va_runV (As := [.int p0]) (rest := []) ⟨hx, hb, hml, hown, hts⟩ (mX1_kind l H_1.size h0 p0) (cwV 1 hts gX1_going_X1_kind rfl rfl rfl (by decide +kernel) ⟨Nat.le_of_ble_eq_true rfl, Nat.le_of_ble_eq_true rfl⟩) ⟨fb_rr, hww.at hS, fun U hU hW => ⟨rfl, congrArg Array.size hU, hww.go hS hU hW.alike⟩⟩ rfl rfl hl.1 rfl (lv_room (Nat.le_of_ble_eq_true rfl)) dX1_going_14 ⟨Nat.zero_le _, Nat.zero_le _⟩) hS (fun q _ h => Nat.le_trans hS.1 h) (fun q h => Nat.le_trans hS.1 h) (fun r_3 _ _ H_3 _ _ _ hw _ _ _ hS => ?_)
    subst hw
    refine lv_istore_n (lv' := [(3, .int (fX1_kind p0)), (0, .ref h0), (1, .int p0), (2, .int p1)]) hx hb dX1_going_17 rfl hl (by decide) rfl (fun ls hl => ?_)
    refine lv_iload_n hx hb dX1_going_18 rfl (lv_at hl 0 rfl) ?_
    refine lv_bipush (v := 14) hx hb dX1_going_19 (by decide) ?_
    refine lv_icmp_ge (tgt := 28) hx hb dX1_going_21 (by decide) (fun c_4 => ?_) (fun c_4 => ?_)
    · -- taken
      refine lv_iconst (v := 5) hx hb dX1_going_28 (by decide) ?_
      refine lv_istore (lv' := [(4, .int (5 : Int32)), (3, .int (fX1_kind p0)), (0, .ref h0), (1, .int p0), (2, .int p1)]) hx hb dX1_going_29 hl (by decide) rfl (fun ls hl => ?_)
      refine lv_iload_n hx hb dX1_going_31 rfl (lv_at hl 1 rfl) ?_
      refine va_calli (va_runS (As := [.int (fX1_kind p0)]) (rest := []) ⟨hx, hb, hml, hown, hts⟩ (mX1_reach l H_3.size (fX1_kind p0)) (va_cwS 1 hts gX1_going_X1_reach rfl rfl rfl (by decide +kernel) ⟨Nat.le_of_ble_eq_true rfl, Nat.le_of_ble_eq_true rfl⟩) ⟨fb_pure, fun U hU hW => ⟨rfl, congrArg Array.size hU⟩⟩ rfl rfl hl.1 rfl (lv_room (Nat.le_of_ble_eq_true rfl)) dX1_going_32 ⟨Nat.zero_le _, Nat.zero_le _⟩) hS (fun q _ h => Nat.le_trans hS.1 h) (fun q h => Nat.le_trans hS.1 h) (fun r_5 _ _ H_5 _ _ _ hw _ _ _ hS => ?_)
      subst hw
      refine lv_iconst (v := 2) hx hb dX1_going_35 (by decide) ?_
      refine lv_idiv hx hb dX1_going_36 (by decide) ?_
      refine lv_iconst (v := 1) hx hb dX1_going_37 (by decide) ?_
      refine lv_isub hx hb dX1_going_38 ?_
      refine lv_istore (lv' := [(5, .int (((fX1_reach (fX1_kind p0)) / (2 : Int32)) - (1 : Int32))), (4, .int (5 : Int32)), (3, .int (fX1_kind p0)), (0, .ref h0), (1, .int p0), (2, .int p1)]) hx hb dX1_going_39 hl (by decide) rfl (fun ls hl => ?_)
      refine lv_iload_n hx hb dX1_going_41 rfl (lv_at hl 4 rfl) ?_
      refine lv_iload_n hx hb dX1_going_42 rfl (lv_at hl 4 rfl) ?_
      refine lv_iload hx hb dX1_going_43 (lv_at hl 0 rfl) ?_
      refine lv_iload hx hb dX1_going_45 (lv_at hl 1 rfl) ?_
      refine lv_ishl hx hb dX1_going_47 ?_
      refine lv_iand hx hb dX1_going_48 ?_
      refine lv_isub hx hb dX1_going_49 ?_
      refine lv_iload_n hx hb dX1_going_50 rfl (lv_at hl 5 rfl) ?_
      refine lv_iconst (v := 4) hx hb dX1_going_51 (by decide) ?_
      refine lv_idiv hx hb dX1_going_52 (by decide) ?_
      refine lv_iload hx hb dX1_going_53 (lv_at hl 0 rfl) ?_
      refine lv_iand hx hb dX1_going_55 ?_
      refine lv_iload hx hb dX1_going_56 (lv_at hl 1 rfl) ?_
      refine lv_ishl hx hb dX1_going_58 ?_
      refine lv_iadd hx hb dX1_going_59 ?_
      exact W.iret (v := ((p0 - (p0 &&& ((((fX1_reach (fX1_kind p0)) / (2 : Int32)) - (1 : Int32)) <<< ((5 : Int32) &&& 31)))) + (((p1 / (4 : Int32)) &&& (((fX1_reach (fX1_kind p0)) / (2 : Int32)) - (1 : Int32))) <<< ((5 : Int32) &&& 31)))) hx hb hr (fun t ht hW => ⟨⟨((p0 - (p0 &&& ((((fX1_reach (fX1_kind p0)) / (2 : Int32)) - (1 : Int32)) <<< ((5 : Int32) &&& 31)))) + (((p1 / (4 : Int32)) &&& (((fX1_reach (fX1_kind p0)) / (2 : Int32)) - (1 : Int32))) <<< ((5 : Int32) &&& 31))), (), rfl, by rw [fX1_going, if_neg c_2, if_pos c_4], trivial⟩, hS.F ht⟩) hS.2.2 dX1_going_60
    · -- not taken
      refine lv_iconst (v := 0) hx hb dX1_going_24 (by decide) ?_
      refine lv_goto (tgt := 29) hx hb dX1_going_25 (by decide) ?_
      refine lv_istore (lv' := [(4, .int (0 : Int32)), (3, .int (fX1_kind p0)), (0, .ref h0), (1, .int p0), (2, .int p1)]) hx hb dX1_going_29 hl (by decide) rfl (fun ls hl => ?_)
      refine lv_iload_n hx hb dX1_going_31 rfl (lv_at hl 1 rfl) ?_
      refine va_calli (va_runS (As := [.int (fX1_kind p0)]) (rest := []) ⟨hx, hb, hml, hown, hts⟩ (mX1_reach l H_3.size (fX1_kind p0)) (va_cwS 1 hts gX1_going_X1_reach rfl rfl rfl (by decide +kernel) ⟨Nat.le_of_ble_eq_true rfl, Nat.le_of_ble_eq_true rfl⟩) ⟨fb_pure, fun U hU hW => ⟨rfl, congrArg Array.size hU⟩⟩ rfl rfl hl.1 rfl (lv_room (Nat.le_of_ble_eq_true rfl)) dX1_going_32 ⟨Nat.zero_le _, Nat.zero_le _⟩) hS (fun q _ h => Nat.le_trans hS.1 h) (fun q h => Nat.le_trans hS.1 h) (fun r_6 _ _ H_6 _ _ _ hw _ _ _ hS => ?_)
      subst hw
      refine lv_iconst (v := 2) hx hb dX1_going_35 (by decide) ?_
      refine lv_idiv hx hb dX1_going_36 (by decide) ?_
      refine lv_iconst (v := 1) hx hb dX1_going_37 (by decide) ?_
      refine lv_isub hx hb dX1_going_38 ?_
      refine lv_istore (lv' := [(5, .int (((fX1_reach (fX1_kind p0)) / (2 : Int32)) - (1 : Int32))), (4, .int (0 : Int32)), (3, .int (fX1_kind p0)), (0, .ref h0), (1, .int p0), (2, .int p1)]) hx hb dX1_going_39 hl (by decide) rfl (fun ls hl => ?_)
      refine lv_iload_n hx hb dX1_going_41 rfl (lv_at hl 4 rfl) ?_
      refine lv_iload_n hx hb dX1_going_42 rfl (lv_at hl 4 rfl) ?_
      refine lv_iload hx hb dX1_going_43 (lv_at hl 0 rfl) ?_
      refine lv_iload hx hb dX1_going_45 (lv_at hl 1 rfl) ?_
      refine lv_ishl hx hb dX1_going_47 ?_
      refine lv_iand hx hb dX1_going_48 ?_
      refine lv_isub hx hb dX1_going_49 ?_
      refine lv_iload_n hx hb dX1_going_50 rfl (lv_at hl 5 rfl) ?_
      refine lv_iconst (v := 4) hx hb dX1_going_51 (by decide) ?_
      refine lv_idiv hx hb dX1_going_52 (by decide) ?_
      refine lv_iload hx hb dX1_going_53 (lv_at hl 0 rfl) ?_
      refine lv_iand hx hb dX1_going_55 ?_
      refine lv_iload hx hb dX1_going_56 (lv_at hl 1 rfl) ?_
      refine lv_ishl hx hb dX1_going_58 ?_
      refine lv_iadd hx hb dX1_going_59 ?_
      exact W.iret (v := ((p0 - (p0 &&& ((((fX1_reach (fX1_kind p0)) / (2 : Int32)) - (1 : Int32)) <<< ((0 : Int32) &&& 31)))) + (((p1 / (4 : Int32)) &&& (((fX1_reach (fX1_kind p0)) / (2 : Int32)) - (1 : Int32))) <<< ((0 : Int32) &&& 31)))) hx hb hr (fun t ht hW => ⟨⟨((p0 - (p0 &&& ((((fX1_reach (fX1_kind p0)) / (2 : Int32)) - (1 : Int32)) <<< ((0 : Int32) &&& 31)))) + (((p1 / (4 : Int32)) &&& (((fX1_reach (fX1_kind p0)) / (2 : Int32)) - (1 : Int32))) <<< ((0 : Int32) &&& 31))), (), rfl, by rw [fX1_going, if_neg c_2, if_neg c_4], trivial⟩, hS.F ht⟩) hS.2.2 dX1_going_60
  · -- not taken
    refine lv_iload_n hx hb dX1_going_10 rfl (lv_at hl 1 rfl) ?_
    exact W.iret (v := p0) hx hb hr (fun t ht hW => ⟨⟨p0, (), rfl, by rw [fX1_going, if_pos c_2], trivial⟩, hS.F ht⟩) hS.2.2 dX1_going_11
set_option maxHeartbeats 4000000 in
set_option maxRecDepth 100000 in
theorem mX1_turned (l : Launch) (sz : Nat) (h0 : Nat) (p0 : Int32) : Met l yX1_turned wsX1_turned ({ frames := 4, cells := 0, slots := 0, locals := 88 }) (va_Pc [.ref h0, .int p0] (fun U => U.heap.size = sz ∧ wv_rcv RX1 h0 U)) (va_Qi (fun (r : Int32) (_ : Unit) => r = fX1_turned p0) (fun _ _ => True) (fun q : Nat => sz ≤ q)) 0 0 (fun q : Nat => sz ≤ q) := by
  refine Met.ofW (cc := cX1_turned) (maxL := 4) (ret := (some .int)) (by decide) rfl ?_
  intro p e s m args below meth c s₁ B hml hv
  obtain ⟨rfl, hsz, hww⟩ := hv
  have hx := B.exec
  have hb := B.bytes
  have hr := B.returns
  have hts := atoms_spec (ws := wsX1_turned) B.pre
  have hown : s.vm.findClass RX1 = some m.cls := findClass_of_methodNamed B.named
  have hlocks := B.notSynchronized
  subst hsz
  have hS : va_S (fun q : Nat => s.heap.size ≤ q) s.heap s.heap [] := va_S.rf
  have hl := lv_entry ([.ref h0, .int p0]) (n := 4) (Nat.le_of_ble_eq_true rfl)
  rw [lg_entry_eq]
  generalize (lg_sl ([.ref h0, .int p0]) ++ List.replicate (4 - (lg_sl ([.ref h0, .int p0])).length) Slot.unset).toArray = ls at hl ⊢
  have hl : lv_has ls 4 [(0, .ref h0), (1, .int p0)] := hl
  refine lv_aload_n hx hb dX1_turned_0 rfl (lv_at hl 0 rfl) ?_
  refine lv_iload_n hx hb dX1_turned_1 rfl (lv_at hl 1 rfl) ?_
  refine va_calli (va_runV (As := [.int p0]) (rest := []) ⟨hx, hb, hml, hown, hts⟩ (mX1_kind l s.heap.size h0 p0) (cwV 1 hts gX1_turned_X1_kind rfl rfl rfl (by decide +kernel) ⟨Nat.le_of_ble_eq_true rfl, Nat.le_of_ble_eq_true rfl⟩) ⟨fb_rr, hww.at hS, fun U hU hW => ⟨rfl, congrArg Array.size hU, hww.go hS hU hW.alike⟩⟩ rfl rfl hl.1 rfl (lv_room (Nat.le_of_ble_eq_true rfl)) dX1_turned_2 ⟨Nat.zero_le _, Nat.zero_le _⟩) hS (fun q _ h => Nat.le_trans hS.1 h) (fun q h => Nat.le_trans hS.1 h) (fun r_1 _ _ H_1 _ _ _ hw _ _ _ hS => ?_)
  subst hw
  refine lv_istore_n (lv' := [(2, .int (fX1_kind p0)), (0, .ref h0), (1, .int p0)]) hx hb dX1_turned_5 rfl hl (by decide) rfl (fun ls hl => ?_)
  refine lv_iload_n hx hb dX1_turned_6 rfl (lv_at hl 0 rfl) ?_
  refine lv_bipush (v := 14) hx hb dX1_turned_7 (by decide) ?_
  refine lv_icmp_ne (tgt := 16) hx hb dX1_turned_9 (by decide) (fun c_2 => ?_) (fun c_2 => ?_)
  · -- taken
    refine lv_iload_n hx hb dX1_turned_16 rfl (lv_at hl 0 rfl) ?_
    refine lv_bipush (v := 15) hx hb dX1_turned_17 (by decide) ?_
    refine lv_icmp_eq (tgt := 28) hx hb dX1_turned_19 (by decide) (fun c_3 => ?_) (fun c_3 => ?_)
    · -- taken
      refine lv_ldc hx hb hown (hts (.constant RX1 55 (16777216)) (by decide +kernel)) dX1_turned_28 ?_
      refine lv_goto (tgt := 34) hx hb dX1_turned_30 (by decide) ?_
      refine lv_istore_n (lv' := [(3, .int (16777216 : Int32)), (2, .int (fX1_kind p0)), (0, .ref h0), (1, .int p0)]) hx hb dX1_turned_34 rfl hl (by decide) rfl (fun ls hl => ?_)
      refine lv_iload_n hx hb dX1_turned_35 rfl (lv_at hl 3 rfl) ?_
      refine lv_iload_n hx hb dX1_turned_36 rfl (lv_at hl 0 rfl) ?_
      refine lv_iand hx hb dX1_turned_37 ?_
      refine lv_if_ne (tgt := 47) hx hb dX1_turned_38 (by decide) (fun c_4 => ?_) (fun c_4 => ?_)
      · -- taken
        refine lv_iload_n hx hb dX1_turned_47 rfl (lv_at hl 3 rfl) ?_
        refine lv_iload_n hx hb dX1_turned_48 rfl (lv_at hl 0 rfl) ?_
        refine lv_isub hx hb dX1_turned_49 ?_
        exact W.iret (v := (p0 - (16777216 : Int32))) hx hb hr (fun t ht hW => ⟨⟨(p0 - (16777216 : Int32)), (), rfl, by rw [fX1_turned, if_neg c_2, if_pos c_3, if_neg c_4], trivial⟩, hS.F ht⟩) hS.2.2 dX1_turned_50
      · -- not taken
        refine lv_iload_n hx hb dX1_turned_41 rfl (lv_at hl 3 rfl) ?_
        refine lv_iload_n hx hb dX1_turned_42 rfl (lv_at hl 0 rfl) ?_
        refine lv_iadd hx hb dX1_turned_43 ?_
        refine lv_goto (tgt := 50) hx hb dX1_turned_44 (by decide) ?_
        exact W.iret (v := (p0 + (16777216 : Int32))) hx hb hr (fun t ht hW => ⟨⟨(p0 + (16777216 : Int32)), (), rfl, by rw [fX1_turned, if_neg c_2, if_pos c_3, if_pos c_4], trivial⟩, hS.F ht⟩) hS.2.2 dX1_turned_50
    · -- not taken
      refine lv_iload_n hx hb dX1_turned_22 rfl (lv_at hl 0 rfl) ?_
      refine lv_bipush (v := 16) hx hb dX1_turned_23 (by decide) ?_
      refine lv_icmp_ne (tgt := 33) hx hb dX1_turned_25 (by decide) (fun c_5 => ?_) (fun c_5 => ?_)
      · -- taken
        refine lv_iconst (v := 0) hx hb dX1_turned_33 (by decide) ?_
        refine lv_istore_n (lv' := [(3, .int (0 : Int32)), (2, .int (fX1_kind p0)), (0, .ref h0), (1, .int p0)]) hx hb dX1_turned_34 rfl hl (by decide) rfl (fun ls hl => ?_)
        refine lv_iload_n hx hb dX1_turned_35 rfl (lv_at hl 3 rfl) ?_
        refine lv_iload_n hx hb dX1_turned_36 rfl (lv_at hl 0 rfl) ?_
        refine lv_iand hx hb dX1_turned_37 ?_
        refine lv_if_ne (tgt := 47) hx hb dX1_turned_38 (by decide) (fun c_6 => ?_) (fun c_6 => ?_)
        · -- taken
          refine lv_iload_n hx hb dX1_turned_47 rfl (lv_at hl 3 rfl) ?_
          refine lv_iload_n hx hb dX1_turned_48 rfl (lv_at hl 0 rfl) ?_
          refine lv_isub hx hb dX1_turned_49 ?_
          exact W.iret (v := (p0 - (0 : Int32))) hx hb hr (fun t ht hW => ⟨⟨(p0 - (0 : Int32)), (), rfl, by rw [fX1_turned, if_neg c_2, if_neg c_3, if_neg c_5, if_neg c_6], trivial⟩, hS.F ht⟩) hS.2.2 dX1_turned_50
        · -- not taken
          refine lv_iload_n hx hb dX1_turned_41 rfl (lv_at hl 3 rfl) ?_
          refine lv_iload_n hx hb dX1_turned_42 rfl (lv_at hl 0 rfl) ?_
          refine lv_iadd hx hb dX1_turned_43 ?_
          refine lv_goto (tgt := 50) hx hb dX1_turned_44 (by decide) ?_
          exact W.iret (v := (p0 + (0 : Int32))) hx hb hr (fun t ht hW => ⟨⟨(p0 + (0 : Int32)), (), rfl, by rw [fX1_turned, if_neg c_2, if_neg c_3, if_neg c_5, if_pos c_6], trivial⟩, hS.F ht⟩) hS.2.2 dX1_turned_50
      · -- not taken
        refine lv_ldc hx hb hown (hts (.constant RX1 55 (16777216)) (by decide +kernel)) dX1_turned_28 ?_
        refine lv_goto (tgt := 34) hx hb dX1_turned_30 (by decide) ?_
        refine lv_istore_n (lv' := [(3, .int (16777216 : Int32)), (2, .int (fX1_kind p0)), (0, .ref h0), (1, .int p0)]) hx hb dX1_turned_34 rfl hl (by decide) rfl (fun ls hl => ?_)
        refine lv_iload_n hx hb dX1_turned_35 rfl (lv_at hl 3 rfl) ?_
        refine lv_iload_n hx hb dX1_turned_36 rfl (lv_at hl 0 rfl) ?_
        refine lv_iand hx hb dX1_turned_37 ?_
        refine lv_if_ne (tgt := 47) hx hb dX1_turned_38 (by decide) (fun c_7 => ?_) (fun c_7 => ?_)
        · -- taken
          refine lv_iload_n hx hb dX1_turned_47 rfl (lv_at hl 3 rfl) ?_
          refine lv_iload_n hx hb dX1_turned_48 rfl (lv_at hl 0 rfl) ?_
          refine lv_isub hx hb dX1_turned_49 ?_
          exact W.iret (v := (p0 - (16777216 : Int32))) hx hb hr (fun t ht hW => ⟨⟨(p0 - (16777216 : Int32)), (), rfl, by rw [fX1_turned, if_neg c_2, if_neg c_3, if_pos c_5, if_neg c_7], trivial⟩, hS.F ht⟩) hS.2.2 dX1_turned_50
        · -- not taken
          refine lv_iload_n hx hb dX1_turned_41 rfl (lv_at hl 3 rfl) ?_
          refine lv_iload_n hx hb dX1_turned_42 rfl (lv_at hl 0 rfl) ?_
          refine lv_iadd hx hb dX1_turned_43 ?_
          refine lv_goto (tgt := 50) hx hb dX1_turned_44 (by decide) ?_
          exact W.iret (v := (p0 + (16777216 : Int32))) hx hb hr (fun t ht hW => ⟨⟨(p0 + (16777216 : Int32)), (), rfl, by rw [fX1_turned, if_neg c_2, if_neg c_3, if_pos c_5, if_pos c_7], trivial⟩, hS.F ht⟩) hS.2.2 dX1_turned_50
  · -- not taken
    refine lv_iconst (v := 1) hx hb dX1_turned_12 (by decide) ?_
    refine lv_goto (tgt := 34) hx hb dX1_turned_13 (by decide) ?_
    refine lv_istore_n (lv' := [(3, .int (1 : Int32)), (2, .int (fX1_kind p0)), (0, .ref h0), (1, .int p0)]) hx hb dX1_turned_34 rfl hl (by decide) rfl (fun ls hl => ?_)
    refine lv_iload_n hx hb dX1_turned_35 rfl (lv_at hl 3 rfl) ?_
    refine lv_iload_n hx hb dX1_turned_36 rfl (lv_at hl 0 rfl) ?_
    refine lv_iand hx hb dX1_turned_37 ?_
    refine lv_if_ne (tgt := 47) hx hb dX1_turned_38 (by decide) (fun c_8 => ?_) (fun c_8 => ?_)
    · -- taken
      refine lv_iload_n hx hb dX1_turned_47 rfl (lv_at hl 3 rfl) ?_
      refine lv_iload_n hx hb dX1_turned_48 rfl (lv_at hl 0 rfl) ?_
      refine lv_isub hx hb dX1_turned_49 ?_
      exact W.iret (v := (p0 - (1 : Int32))) hx hb hr (fun t ht hW => ⟨⟨(p0 - (1 : Int32)), (), rfl, by rw [fX1_turned, if_pos c_2, if_neg c_8], trivial⟩, hS.F ht⟩) hS.2.2 dX1_turned_50
    · -- not taken
      refine lv_iload_n hx hb dX1_turned_41 rfl (lv_at hl 3 rfl) ?_
      refine lv_iload_n hx hb dX1_turned_42 rfl (lv_at hl 0 rfl) ?_
      refine lv_iadd hx hb dX1_turned_43 ?_
      refine lv_goto (tgt := 50) hx hb dX1_turned_44 (by decide) ?_
      exact W.iret (v := (p0 + (1 : Int32))) hx hb hr (fun t ht hW => ⟨⟨(p0 + (1 : Int32)), (), rfl, by rw [fX1_turned, if_pos c_2, if_pos c_8], trivial⟩, hS.F ht⟩) hS.2.2 dX1_turned_50
set_option maxHeartbeats 4000000 in
set_option maxRecDepth 100000 in
theorem mX1_page (l : Launch) (sz : Nat) (h0 : Nat) (p0 : Int32) (p1 : Int64) : Met l yX1_page wsX1_page ({ frames := 4, cells := 0, slots := 0, locals := 88 }) (va_Pc [.ref h0, .int p0, .long p1] (fun U => U.heap.size = sz ∧ wv_rcv RX1 h0 U)) (va_Ql (fun (r : Int64) (_ : Unit) => r = fX1_page p0 p1) (fun _ _ => True) (fun q : Nat => sz ≤ q)) 0 0 (fun q : Nat => sz ≤ q) := by
  refine Met.ofW (cc := cX1_page) (maxL := 6) (ret := (some .long)) (by decide) rfl ?_
  intro p e s m args below meth c s₁ B hml hv
  obtain ⟨rfl, hsz, hww⟩ := hv
  have hx := B.exec
  have hb := B.bytes
  have hr := B.returns
  have hts := atoms_spec (ws := wsX1_page) B.pre
  have hown : s.vm.findClass RX1 = some m.cls := findClass_of_methodNamed B.named
  have hlocks := B.notSynchronized
  subst hsz
  have hS : va_S (fun q : Nat => s.heap.size ≤ q) s.heap s.heap [] := va_S.rf
  have hl := lv_entry ([.ref h0, .int p0, .long p1]) (n := 6) (Nat.le_of_ble_eq_true rfl)
  rw [lg_entry_eq]
  generalize (lg_sl ([.ref h0, .int p0, .long p1]) ++ List.replicate (6 - (lg_sl ([.ref h0, .int p0, .long p1])).length) Slot.unset).toArray = ls at hl ⊢
  have hl : lv_has ls 6 [(0, .ref h0), (1, .int p0), (2, .long p1)] := hl
  refine lv_aload_n hx hb dX1_page_0 rfl (lv_at hl 0 rfl) ?_
  refine lv_iload_n hx hb dX1_page_1 rfl (lv_at hl 1 rfl) ?_
  refine va_calli (va_runV (As := [.int p0]) (rest := []) ⟨hx, hb, hml, hown, hts⟩ (mX1_kind l s.heap.size h0 p0) (cwV 1 hts gX1_page_X1_kind rfl rfl rfl (by decide +kernel) ⟨Nat.le_of_ble_eq_true rfl, Nat.le_of_ble_eq_true rfl⟩) ⟨fb_rr, hww.at hS, fun U hU hW => ⟨rfl, congrArg Array.size hU, hww.go hS hU hW.alike⟩⟩ rfl rfl hl.1 rfl (lv_room (Nat.le_of_ble_eq_true rfl)) dX1_page_2 ⟨Nat.zero_le _, Nat.zero_le _⟩) hS (fun q _ h => Nat.le_trans hS.1 h) (fun q h => Nat.le_trans hS.1 h) (fun r_1 _ _ H_1 _ _ _ hw _ _ _ hS => ?_)
  subst hw
  refine lv_iconst (v := 5) hx hb dX1_page_5 (by decide) ?_
  refine lv_icmp_eq (tgt := 13) hx hb dX1_page_6 (by decide) (fun c_2 => ?_) (fun c_2 => ?_)
  · -- taken
    refine lv_ldc2 hx hb hown (hts (.constantLong RX1 49 (4)) (by decide +kernel)) dX1_page_13 ?_
    refine lv_iload_n hx hb dX1_page_16 rfl (lv_at hl 1 rfl) ?_
    refine lv_iconst (v := 5) hx hb dX1_page_17 (by decide) ?_
    refine lv_bipush (v := 23) hx hb dX1_page_18 (by decide) ?_
    refine va_calli (va_runS (As := [.int p0, .int (5 : Int32), .int (23 : Int32)]) (rest := [.long (4 : Int64)]) ⟨hx, hb, hml, hown, hts⟩ (mX1_signed l H_1.size p0 (5 : Int32) (23 : Int32)) (va_cwS 3 hts gX1_page_X1_signed rfl rfl rfl (by decide +kernel) ⟨Nat.le_of_ble_eq_true rfl, Nat.le_of_ble_eq_true rfl⟩) ⟨fb_pure, fun U hU hW => ⟨rfl, congrArg Array.size hU⟩⟩ rfl rfl hl.1 rfl (lv_room (Nat.le_of_ble_eq_true rfl)) dX1_page_20 ⟨Nat.zero_le _, Nat.zero_le _⟩) hS (fun q _ h => Nat.le_trans hS.1 h) (fun q h => Nat.le_trans hS.1 h) (fun r_3 _ _ H_3 _ _ _ hw _ _ _ hS => ?_)
    subst hw
    refine lv_i2l hx hb dX1_page_23 rfl ?_
    refine lv_lmul hx hb dX1_page_24 ?_
    refine lv_iload_n hx hb dX1_page_25 rfl (lv_at hl 1 rfl) ?_
    refine lv_bipush (v := 29) hx hb dX1_page_26 (by decide) ?_
    refine lv_bipush (v := 30) hx hb dX1_page_28 (by decide) ?_
    refine va_calli (va_runS (As := [.int p0, .int (29 : Int32), .int (30 : Int32)]) (rest := [.long ((4 : Int64) * (((fX1_signed p0 (5 : Int32) (23 : Int32))).toInt64))]) ⟨hx, hb, hml, hown, hts⟩ (mX1_bits l H_3.size p0 (29 : Int32) (30 : Int32)) (va_cwS 3 hts gX1_page_X1_bits rfl rfl rfl (by decide +kernel) ⟨Nat.le_of_ble_eq_true rfl, Nat.le_of_ble_eq_true rfl⟩) ⟨fb_pure, fun U hU hW => ⟨rfl, congrArg Array.size hU⟩⟩ rfl rfl hl.1 rfl (lv_room (Nat.le_of_ble_eq_true rfl)) dX1_page_30 ⟨Nat.zero_le _, Nat.zero_le _⟩) hS (fun q _ h => Nat.le_trans hS.1 h) (fun q h => Nat.le_trans hS.1 h) (fun r_4 _ _ H_4 _ _ _ hw _ _ _ hS => ?_)
    subst hw
    refine lv_i2l hx hb dX1_page_33 rfl ?_
    refine lv_ladd hx hb dX1_page_34 ?_
    refine lv_lstore (lv' := [(4, .long (((4 : Int64) * (((fX1_signed p0 (5 : Int32) (23 : Int32))).toInt64)) + (((fX1_bits p0 (29 : Int32) (30 : Int32))).toInt64))), (0, .ref h0), (1, .int p0), (2, .long p1)]) hx hb dX1_page_35 hl (by decide) rfl (fun ls hl => ?_)
    refine lv_lload_n hx hb dX1_page_37 rfl (lv_at hl 3 rfl) ?_
    refine lv_lload_n hx hb dX1_page_38 rfl (lv_at hl 3 rfl) ?_
    refine lv_ldc2 hx hb hown (hts (.constantLong RX1 58 (4095)) (by decide +kernel)) dX1_page_39 ?_
    refine lv_land hx hb dX1_page_42 ?_
    refine lv_lsub hx hb dX1_page_43 ?_
    refine lv_ldc2 hx hb hown (hts (.constantLong RX1 60 (4096)) (by decide +kernel)) dX1_page_44 ?_
    refine lv_lload hx hb dX1_page_47 (lv_at hl 0 rfl) ?_
    refine lv_lmul hx hb dX1_page_49 ?_
    refine lv_ladd hx hb dX1_page_50 ?_
    exact W.lret (v := ((p1 - (p1 &&& (4095 : Int64))) + ((4096 : Int64) * (((4 : Int64) * (((fX1_signed p0 (5 : Int32) (23 : Int32))).toInt64)) + (((fX1_bits p0 (29 : Int32) (30 : Int32))).toInt64))))) hx hb hr (fun t ht hW => ⟨⟨((p1 - (p1 &&& (4095 : Int64))) + ((4096 : Int64) * (((4 : Int64) * (((fX1_signed p0 (5 : Int32) (23 : Int32))).toInt64)) + (((fX1_bits p0 (29 : Int32) (30 : Int32))).toInt64)))), (), rfl, by rw [fX1_page, if_pos c_2], trivial⟩, hS.F ht⟩) hS.2.2 dX1_page_51
  · -- not taken
    refine lv_ldc2 hx hb hown (hts (.constantLong RX1 56 (-1)) (by decide +kernel)) dX1_page_9 ?_
    exact W.lret (v := (-1 : Int64)) hx hb hr (fun t ht hW => ⟨⟨(-1 : Int64), (), rfl, by rw [fX1_page, if_neg c_2], trivial⟩, hS.F ht⟩) hS.2.2 dX1_page_12
set_option maxHeartbeats 4000000 in
set_option maxRecDepth 100000 in
theorem mX1_paging (l : Launch) (sz : Nat) (h0 : Nat) (p0 : Int32) (p1 : Int64) (p2 : Int64) : Met l yX1_paging wsX1_paging ({ frames := 4, cells := 0, slots := 0, locals := 88 }) (va_Pc [.ref h0, .int p0, .long p1, .long p2] (fun U => U.heap.size = sz ∧ wv_rcv RX1 h0 U)) (va_Qi (fun (r : Int32) (_ : Unit) => r = fX1_paging p0 p1 p2) (fun _ _ => True) (fun q : Nat => sz ≤ q)) 0 0 (fun q : Nat => sz ≤ q) := by
  refine Met.ofW (cc := cX1_paging) (maxL := 9) (ret := (some .int)) (by decide) rfl ?_
  intro p e s m args below meth c s₁ B hml hv
  obtain ⟨rfl, hsz, hww⟩ := hv
  have hx := B.exec
  have hb := B.bytes
  have hr := B.returns
  have hts := atoms_spec (ws := wsX1_paging) B.pre
  have hown : s.vm.findClass RX1 = some m.cls := findClass_of_methodNamed B.named
  have hlocks := B.notSynchronized
  subst hsz
  have hS : va_S (fun q : Nat => s.heap.size ≤ q) s.heap s.heap [] := va_S.rf
  have hl := lv_entry ([.ref h0, .int p0, .long p1, .long p2]) (n := 9) (Nat.le_of_ble_eq_true rfl)
  rw [lg_entry_eq]
  generalize (lg_sl ([.ref h0, .int p0, .long p1, .long p2]) ++ List.replicate (9 - (lg_sl ([.ref h0, .int p0, .long p1, .long p2])).length) Slot.unset).toArray = ls at hl ⊢
  have hl : lv_has ls 9 [(0, .ref h0), (1, .int p0), (2, .long p1), (4, .long p2)] := hl
  refine lv_aload_n hx hb dX1_paging_0 rfl (lv_at hl 0 rfl) ?_
  refine lv_iload_n hx hb dX1_paging_1 rfl (lv_at hl 1 rfl) ?_
  refine va_calli (va_runV (As := [.int p0]) (rest := []) ⟨hx, hb, hml, hown, hts⟩ (mX1_kind l s.heap.size h0 p0) (cwV 1 hts gX1_paging_X1_kind rfl rfl rfl (by decide +kernel) ⟨Nat.le_of_ble_eq_true rfl, Nat.le_of_ble_eq_true rfl⟩) ⟨fb_rr, hww.at hS, fun U hU hW => ⟨rfl, congrArg Array.size hU, hww.go hS hU hW.alike⟩⟩ rfl rfl hl.1 rfl (lv_room (Nat.le_of_ble_eq_true rfl)) dX1_paging_2 ⟨Nat.zero_le _, Nat.zero_le _⟩) hS (fun q _ h => Nat.le_trans hS.1 h) (fun q h => Nat.le_trans hS.1 h) (fun r_1 _ _ H_1 _ _ _ hw _ _ _ hS => ?_)
  subst hw
  refine lv_iconst (v := 5) hx hb dX1_paging_5 (by decide) ?_
  refine lv_icmp_eq (tgt := 11) hx hb dX1_paging_6 (by decide) (fun c_2 => ?_) (fun c_2 => ?_)
  · -- taken
    refine lv_lload hx hb dX1_paging_11 (lv_at hl 3 rfl) ?_
    refine lv_lload hx hb dX1_paging_13 (lv_at hl 3 rfl) ?_
    refine lv_ldc2 hx hb hown (hts (.constantLong RX1 58 (4095)) (by decide +kernel)) dX1_paging_15 ?_
    refine lv_land hx hb dX1_paging_18 ?_
    refine lv_lsub hx hb dX1_paging_19 ?_
    refine lv_lload_n hx hb dX1_paging_20 rfl (lv_at hl 2 rfl) ?_
    refine lv_lload_n hx hb dX1_paging_21 rfl (lv_at hl 2 rfl) ?_
    refine lv_ldc2 hx hb hown (hts (.constantLong RX1 58 (4095)) (by decide +kernel)) dX1_paging_22 ?_
    refine lv_land hx hb dX1_paging_25 ?_
    refine lv_lsub hx hb dX1_paging_26 ?_
    refine lv_lsub hx hb dX1_paging_27 ?_
    refine lv_ldc2 hx hb hown (hts (.constantLong RX1 60 (4096)) (by decide +kernel)) dX1_paging_28 ?_
    refine lv_ldiv hx hb dX1_paging_31 (by decide) ?_
    refine lv_lstore (lv' := [(6, .long (((p2 - (p2 &&& (4095 : Int64))) - (p1 - (p1 &&& (4095 : Int64)))) / (4096 : Int64))), (0, .ref h0), (1, .int p0), (2, .long p1), (4, .long p2)]) hx hb dX1_paging_32 hl (by decide) rfl (fun ls hl => ?_)
    refine lv_lload hx hb dX1_paging_34 (lv_at hl 0 rfl) ?_
    refine lv_ldc2 hx hb hown (hts (.constantLong RX1 62 (-1048576)) (by decide +kernel)) dX1_paging_36 ?_
    refine W.lcmp hx hb dX1_paging_39 ?_
    refine lv_if_lt (tgt := 52) hx hb dX1_paging_40 (by decide) (fun c_3 => ?_) (fun c_3 => ?_)
    · -- taken
      refine lv_iload_n hx hb dX1_paging_52 rfl (lv_at hl 2 rfl) ?_
      exact W.iret (v := p0) hx hb hr (fun t ht hW => ⟨⟨p0, (), rfl, by rw [fX1_paging, if_pos c_2, if_pos c_3], trivial⟩, hS.F ht⟩) hS.2.2 dX1_paging_53
    · -- not taken
      refine lv_lload hx hb dX1_paging_43 (lv_at hl 0 rfl) ?_
      refine lv_ldc2 hx hb hown (hts (.constantLong RX1 64 (1048575)) (by decide +kernel)) dX1_paging_45 ?_
      refine W.lcmp hx hb dX1_paging_48 ?_
      refine lv_if_le (tgt := 54) hx hb dX1_paging_49 (by decide) (fun c_4 => ?_) (fun c_4 => ?_)
      · -- taken
        refine lv_lload hx hb dX1_paging_54 (lv_at hl 0 rfl) ?_
        refine lv_ldc2 hx hb hown (hts (.constantLong RX1 66 (3)) (by decide +kernel)) dX1_paging_56 ?_
        refine lv_land hx hb dX1_paging_59 ?_
        refine lv_l2i hx hb dX1_paging_60 rfl ?_
        refine lv_istore (lv' := [(8, .int ((((((p2 - (p2 &&& (4095 : Int64))) - (p1 - (p1 &&& (4095 : Int64)))) / (4096 : Int64)) &&& (3 : Int64))).toInt32)), (6, .long (((p2 - (p2 &&& (4095 : Int64))) - (p1 - (p1 &&& (4095 : Int64)))) / (4096 : Int64))), (0, .ref h0), (1, .int p0), (2, .long p1), (4, .long p2)]) hx hb dX1_paging_61 hl (by decide) rfl (fun ls hl => ?_)
        refine lv_iload_n hx hb dX1_paging_63 rfl (lv_at hl 3 rfl) ?_
        refine lv_iconst (v := 0) hx hb dX1_paging_64 (by decide) ?_
        refine lv_iconst (v := 4) hx hb dX1_paging_65 (by decide) ?_
        refine va_calli (va_runS (As := [.int p0, .int (0 : Int32), .int (4 : Int32)]) (rest := []) ⟨hx, hb, hml, hown, hts⟩ (mX1_bits l H_1.size p0 (0 : Int32) (4 : Int32)) (va_cwS 3 hts gX1_paging_X1_bits rfl rfl rfl (by decide +kernel) ⟨Nat.le_of_ble_eq_true rfl, Nat.le_of_ble_eq_true rfl⟩) ⟨fb_pure, fun U hU hW => ⟨rfl, congrArg Array.size hU⟩⟩ rfl rfl hl.1 rfl (lv_room (Nat.le_of_ble_eq_true rfl)) dX1_paging_66 ⟨Nat.zero_le _, Nat.zero_le _⟩) hS (fun q _ h => Nat.le_trans hS.1 h) (fun q h => Nat.le_trans hS.1 h) (fun r_5 _ _ H_5 _ _ _ hw _ _ _ hS => ?_)
        subst hw
        refine lv_ldc hx hb hown (hts (.constant RX1 68 (1879048192)) (by decide +kernel)) dX1_paging_69 ?_
        refine lv_isub hx hb dX1_paging_71 ?_
        refine lv_iload hx hb dX1_paging_72 (lv_at hl 0 rfl) ?_
        refine lv_ldc hx hb hown (hts (.constant RX1 69 (536870912)) (by decide +kernel)) dX1_paging_74 ?_
        refine lv_imul hx hb dX1_paging_76 ?_
        refine lv_iadd hx hb dX1_paging_77 ?_
        refine lv_lload hx hb dX1_paging_78 (lv_at hl 1 rfl) ?_
        refine lv_iload hx hb dX1_paging_80 (lv_at hl 0 rfl) ?_
        refine lv_i2l hx hb dX1_paging_82 rfl ?_
        refine lv_lsub hx hb dX1_paging_83 ?_
        refine lv_ldc2 hx hb hown (hts (.constantLong RX1 49 (4)) (by decide +kernel)) dX1_paging_84 ?_
        refine lv_ldiv hx hb dX1_paging_87 (by decide) ?_
        refine lv_ldc2 hx hb hown (hts (.constantLong RX1 70 (524287)) (by decide +kernel)) dX1_paging_88 ?_
        refine lv_land hx hb dX1_paging_91 ?_
        refine lv_l2i hx hb dX1_paging_92 rfl ?_
        refine lv_bipush (v := 32) hx hb dX1_paging_93 (by decide) ?_
        refine lv_imul hx hb dX1_paging_95 ?_
        refine lv_iadd hx hb dX1_paging_96 ?_
        exact W.iret (v := ((((fX1_bits p0 (0 : Int32) (4 : Int32)) - (1879048192 : Int32)) + (((((((p2 - (p2 &&& (4095 : Int64))) - (p1 - (p1 &&& (4095 : Int64)))) / (4096 : Int64)) &&& (3 : Int64))).toInt32) * (536870912 : Int32))) + (((((((((p2 - (p2 &&& (4095 : Int64))) - (p1 - (p1 &&& (4095 : Int64)))) / (4096 : Int64)) - ((((((((p2 - (p2 &&& (4095 : Int64))) - (p1 - (p1 &&& (4095 : Int64)))) / (4096 : Int64)) &&& (3 : Int64))).toInt32)).toInt64)) / (4 : Int64)) &&& (524287 : Int64))).toInt32) * (32 : Int32)))) hx hb hr (fun t ht hW => ⟨⟨((((fX1_bits p0 (0 : Int32) (4 : Int32)) - (1879048192 : Int32)) + (((((((p2 - (p2 &&& (4095 : Int64))) - (p1 - (p1 &&& (4095 : Int64)))) / (4096 : Int64)) &&& (3 : Int64))).toInt32) * (536870912 : Int32))) + (((((((((p2 - (p2 &&& (4095 : Int64))) - (p1 - (p1 &&& (4095 : Int64)))) / (4096 : Int64)) - ((((((((p2 - (p2 &&& (4095 : Int64))) - (p1 - (p1 &&& (4095 : Int64)))) / (4096 : Int64)) &&& (3 : Int64))).toInt32)).toInt64)) / (4 : Int64)) &&& (524287 : Int64))).toInt32) * (32 : Int32))), (), rfl, by rw [fX1_paging, if_pos c_2, if_neg c_3, if_pos c_4], trivial⟩, hS.F ht⟩) hS.2.2 dX1_paging_97
      · -- not taken
        refine lv_iload_n hx hb dX1_paging_52 rfl (lv_at hl 2 rfl) ?_
        exact W.iret (v := p0) hx hb hr (fun t ht hW => ⟨⟨p0, (), rfl, by rw [fX1_paging, if_pos c_2, if_neg c_3, if_neg c_4], trivial⟩, hS.F ht⟩) hS.2.2 dX1_paging_53
  · -- not taken
    refine lv_iload_n hx hb dX1_paging_9 rfl (lv_at hl 1 rfl) ?_
    exact W.iret (v := p0) hx hb hr (fun t ht hW => ⟨⟨p0, (), rfl, by rw [fX1_paging, if_neg c_2], trivial⟩, hS.F ht⟩) hS.2.2 dX1_paging_10
set_option maxHeartbeats 4000000 in
set_option maxRecDepth 100000 in
theorem mX1_goesOn (l : Launch) (sz : Nat) (h0 : Nat) (p0 : Int32) : Met l yX1_goesOn wsX1_goesOn ({ frames := 4, cells := 0, slots := 0, locals := 88 }) (va_Pc [.ref h0, .int p0] (fun U => U.heap.size = sz ∧ wv_rcv RX1 h0 U)) (va_Qi (fun (r : Int32) (_ : Unit) => r = fX1_goesOn p0) (fun _ _ => True) (fun q : Nat => sz ≤ q)) 0 0 (fun q : Nat => sz ≤ q) := by
  refine Met.ofW (cc := cX1_goesOn) (maxL := 3) (ret := (some .boolean)) (by decide) rfl ?_
  intro p e s m args below meth c s₁ B hml hv
  obtain ⟨rfl, hsz, hww⟩ := hv
  have hx := B.exec
  have hb := B.bytes
  have hr := B.returns
  have hts := atoms_spec (ws := wsX1_goesOn) B.pre
  have hown : s.vm.findClass RX1 = some m.cls := findClass_of_methodNamed B.named
  have hlocks := B.notSynchronized
  subst hsz
  have hS : va_S (fun q : Nat => s.heap.size ≤ q) s.heap s.heap [] := va_S.rf
  have hl := lv_entry ([.ref h0, .int p0]) (n := 3) (Nat.le_of_ble_eq_true rfl)
  rw [lg_entry_eq]
  generalize (lg_sl ([.ref h0, .int p0]) ++ List.replicate (3 - (lg_sl ([.ref h0, .int p0])).length) Slot.unset).toArray = ls at hl ⊢
  have hl : lv_has ls 3 [(0, .ref h0), (1, .int p0)] := hl
  refine lv_aload_n hx hb dX1_goesOn_0 rfl (lv_at hl 0 rfl) ?_
  refine lv_iload_n hx hb dX1_goesOn_1 rfl (lv_at hl 1 rfl) ?_
  refine va_calli (va_runV (As := [.int p0]) (rest := []) ⟨hx, hb, hml, hown, hts⟩ (mX1_kind l s.heap.size h0 p0) (cwV 1 hts gX1_goesOn_X1_kind rfl rfl rfl (by decide +kernel) ⟨Nat.le_of_ble_eq_true rfl, Nat.le_of_ble_eq_true rfl⟩) ⟨fb_rr, hww.at hS, fun U hU hW => ⟨rfl, congrArg Array.size hU, hww.go hS hU hW.alike⟩⟩ rfl rfl hl.1 rfl (lv_room (Nat.le_of_ble_eq_true rfl)) dX1_goesOn_2 ⟨Nat.zero_le _, Nat.zero_le _⟩) hS (fun q _ h => Nat.le_trans hS.1 h) (fun q h => Nat.le_trans hS.1 h) (fun r_1 _ _ H_1 _ _ _ hw _ _ _ hS => ?_)
  subst hw
  refine lv_istore_n (lv' := [(2, .int (fX1_kind p0)), (0, .ref h0), (1, .int p0)]) hx hb dX1_goesOn_5 rfl hl (by decide) rfl (fun ls hl => ?_)
  refine lv_iload_n hx hb dX1_goesOn_6 rfl (lv_at hl 0 rfl) ?_
  refine lv_if_le (tgt := 32) hx hb dX1_goesOn_7 (by decide) (fun c_2 => ?_) (fun c_2 => ?_)
  · -- taken
    refine lv_iconst (v := 0) hx hb dX1_goesOn_32 (by decide) ?_
    exact W.zret (v := (0 : Int32)) hx hb hr (nb_01 (Or.inl rfl)) (fun t ht hW => ⟨⟨(0 : Int32), (), rfl, by rw [fX1_goesOn, if_pos c_2], trivial⟩, hS.F ht⟩) hS.2.2 dX1_goesOn_33
  · -- not taken
    refine lv_iload_n hx hb dX1_goesOn_10 rfl (lv_at hl 0 rfl) ?_
    refine lv_bipush (v := 12) hx hb dX1_goesOn_11 (by decide) ?_
    refine lv_icmp_eq (tgt := 32) hx hb dX1_goesOn_13 (by decide) (fun c_3 => ?_) (fun c_3 => ?_)
    · -- taken
      refine lv_iconst (v := 0) hx hb dX1_goesOn_32 (by decide) ?_
      exact W.zret (v := (0 : Int32)) hx hb hr (nb_01 (Or.inl rfl)) (fun t ht hW => ⟨⟨(0 : Int32), (), rfl, by rw [fX1_goesOn, if_neg c_2, if_pos c_3], trivial⟩, hS.F ht⟩) hS.2.2 dX1_goesOn_33
    · -- not taken
      refine lv_iload_n hx hb dX1_goesOn_16 rfl (lv_at hl 0 rfl) ?_
      refine lv_bipush (v := 17) hx hb dX1_goesOn_17 (by decide) ?_
      refine lv_icmp_eq (tgt := 32) hx hb dX1_goesOn_19 (by decide) (fun c_4 => ?_) (fun c_4 => ?_)
      · -- taken
        refine lv_iconst (v := 0) hx hb dX1_goesOn_32 (by decide) ?_
        exact W.zret (v := (0 : Int32)) hx hb hr (nb_01 (Or.inl rfl)) (fun t ht hW => ⟨⟨(0 : Int32), (), rfl, by rw [fX1_goesOn, if_neg c_2, if_neg c_3, if_pos c_4], trivial⟩, hS.F ht⟩) hS.2.2 dX1_goesOn_33
      · -- not taken
        refine lv_iload_n hx hb dX1_goesOn_22 rfl (lv_at hl 0 rfl) ?_
        refine lv_bipush (v := 19) hx hb dX1_goesOn_23 (by decide) ?_
        refine lv_icmp_eq (tgt := 32) hx hb dX1_goesOn_25 (by decide) (fun c_5 => ?_) (fun c_5 => ?_)
        · -- taken
          refine lv_iconst (v := 0) hx hb dX1_goesOn_32 (by decide) ?_
          exact W.zret (v := (0 : Int32)) hx hb hr (nb_01 (Or.inl rfl)) (fun t ht hW => ⟨⟨(0 : Int32), (), rfl, by rw [fX1_goesOn, if_neg c_2, if_neg c_3, if_neg c_4, if_pos c_5], trivial⟩, hS.F ht⟩) hS.2.2 dX1_goesOn_33
        · -- not taken
          refine lv_iconst (v := 1) hx hb dX1_goesOn_28 (by decide) ?_
          refine lv_goto (tgt := 33) hx hb dX1_goesOn_29 (by decide) ?_
          exact W.zret (v := (1 : Int32)) hx hb hr (nb_01 (Or.inr rfl)) (fun t ht hW => ⟨⟨(1 : Int32), (), rfl, by rw [fX1_goesOn, if_neg c_2, if_neg c_3, if_neg c_4, if_neg c_5], trivial⟩, hS.F ht⟩) hS.2.2 dX1_goesOn_33
set_option maxHeartbeats 4000000 in
set_option maxRecDepth 100000 in
theorem mX1_register (l : Launch) (sz : Nat) (h0 : Nat) (p0 : Int32) (p1 : Int32) : Met l yX1_register wsX1_register ({ frames := 4, cells := 0, slots := 0, locals := 88 }) (va_Pc [.ref h0, .int p0, .int p1] (fun U => U.heap.size = sz ∧ wv_rcv RX1 h0 U)) (va_Qi (fun (r : Int32) (_ : Unit) => r = fX1_register p0 p1) (fun _ _ => True) (fun q : Nat => sz ≤ q)) 0 0 (fun q : Nat => sz ≤ q) := by
  refine Met.ofW (cc := cX1_register) (maxL := 6) (ret := (some .int)) (by decide) rfl ?_
  intro p e s m args below meth c s₁ B hml hv
  obtain ⟨rfl, hsz, hww⟩ := hv
  have hx := B.exec
  have hb := B.bytes
  have hr := B.returns
  have hts := atoms_spec (ws := wsX1_register) B.pre
  have hown : s.vm.findClass RX1 = some m.cls := findClass_of_methodNamed B.named
  have hlocks := B.notSynchronized
  subst hsz
  have hS : va_S (fun q : Nat => s.heap.size ≤ q) s.heap s.heap [] := va_S.rf
  have hl := lv_entry ([.ref h0, .int p0, .int p1]) (n := 6) (Nat.le_of_ble_eq_true rfl)
  rw [lg_entry_eq]
  generalize (lg_sl ([.ref h0, .int p0, .int p1]) ++ List.replicate (6 - (lg_sl ([.ref h0, .int p0, .int p1])).length) Slot.unset).toArray = ls at hl ⊢
  have hl : lv_has ls 6 [(0, .ref h0), (1, .int p0), (2, .int p1)] := hl
  refine lv_aload_n hx hb dX1_register_0 rfl (lv_at hl 0 rfl) ?_
  refine lv_iload_n hx hb dX1_register_1 rfl (lv_at hl 1 rfl) ?_
  refine va_calli (va_runV (As := [.int p0]) (rest := []) ⟨hx, hb, hml, hown, hts⟩ (mX1_kind l s.heap.size h0 p0) (cwV 1 hts gX1_register_X1_kind rfl rfl rfl (by decide +kernel) ⟨Nat.le_of_ble_eq_true rfl, Nat.le_of_ble_eq_true rfl⟩) ⟨fb_rr, hww.at hS, fun U hU hW => ⟨rfl, congrArg Array.size hU, hww.go hS hU hW.alike⟩⟩ rfl rfl hl.1 rfl (lv_room (Nat.le_of_ble_eq_true rfl)) dX1_register_2 ⟨Nat.zero_le _, Nat.zero_le _⟩) hS (fun q _ h => Nat.le_trans hS.1 h) (fun q h => Nat.le_trans hS.1 h) (fun r_1 _ _ H_1 _ _ _ hw _ _ _ hS => ?_)
  subst hw
  refine lv_istore_n (lv' := [(3, .int (fX1_kind p0)), (0, .ref h0), (1, .int p0), (2, .int p1)]) hx hb dX1_register_5 rfl hl (by decide) rfl (fun ls hl => ?_)
  refine lv_iload_n hx hb dX1_register_6 rfl (lv_at hl 3 rfl) ?_
  refine lv_if_ne (tgt := 40) hx hb dX1_register_7 (by decide) (fun c_2 => ?_) (fun c_2 => ?_)
  · -- taken
    refine lv_iload_n hx hb dX1_register_40 rfl (lv_at hl 3 rfl) ?_
    refine lv_iconst (v := 1) hx hb dX1_register_41 (by decide) ?_
    refine lv_icmp_ne (tgt := 85) hx hb dX1_register_42 (by decide) (fun c_3 => ?_) (fun c_3 => ?_)
    · -- taken
      refine lv_iload_n hx hb dX1_register_85 rfl (lv_at hl 3 rfl) ?_
      refine lv_iconst (v := 2) hx hb dX1_register_86 (by decide) ?_
      refine lv_icmp_ne (tgt := 125) hx hb dX1_register_87 (by decide) (fun c_4 => ?_) (fun c_4 => ?_)
      · -- taken
        refine lv_iload_n hx hb dX1_register_125 rfl (lv_at hl 3 rfl) ?_
        refine lv_iconst (v := 3) hx hb dX1_register_126 (by decide) ?_
        refine lv_icmp_ne (tgt := 146) hx hb dX1_register_127 (by decide) (fun c_5 => ?_) (fun c_5 => ?_)
        · -- taken
          refine lv_iconst (v := 0) hx hb dX1_register_146 (by decide) ?_
          refine lv_istore (lv' := [(4, .int (0 : Int32)), (3, .int (fX1_kind p0)), (0, .ref h0), (1, .int p0), (2, .int p1)]) hx hb dX1_register_147 hl (by decide) rfl (fun ls hl => ?_)
          refine lv_iload hx hb dX1_register_149 (lv_at hl 0 rfl) ?_
          refine lv_if_ne (tgt := 156) hx hb dX1_register_151 (by decide) (fun c => absurd c (by decide)) (fun _ => ?_)
          refine lv_iconst (v := -1) hx hb dX1_register_154 (by decide) ?_
          exact W.iret (v := (-1 : Int32)) hx hb hr (fun t ht hW => ⟨⟨(-1 : Int32), (), rfl, by rw [fX1_register, if_neg c_2, if_neg c_3, if_neg c_4, if_neg c_5], trivial⟩, hS.F ht⟩) hS.2.2 dX1_register_155
        · -- not taken
          refine lv_iload_n hx hb dX1_register_130 rfl (lv_at hl 0 rfl) ?_
          refine lv_bipush (v := 6) hx hb dX1_register_131 (by decide) ?_
          refine lv_icmp_eq (tgt := 142) hx hb dX1_register_133 (by decide) (fun c_6 => ?_) (fun c_6 => ?_)
          · -- taken
            refine lv_iconst (v := 1) hx hb dX1_register_142 (by decide) ?_
            refine lv_goto (tgt := 147) hx hb dX1_register_143 (by decide) ?_
            refine lv_istore (lv' := [(4, .int (1 : Int32)), (3, .int (fX1_kind p0)), (0, .ref h0), (1, .int p0), (2, .int p1)]) hx hb dX1_register_147 hl (by decide) rfl (fun ls hl => ?_)
            refine lv_iload hx hb dX1_register_149 (lv_at hl 0 rfl) ?_
            refine lv_if_ne (tgt := 156) hx hb dX1_register_151 (by decide) (fun _ => ?_) (fun c => absurd c (by decide))
            refine lv_iload_n hx hb dX1_register_156 rfl (lv_at hl 4 rfl) ?_
            refine lv_if_ne (tgt := 164) hx hb dX1_register_157 (by decide) (fun _ => ?_) (fun c => absurd c c_2)
            refine lv_iload_n hx hb dX1_register_164 rfl (lv_at hl 4 rfl) ?_
            refine lv_iconst (v := 1) hx hb dX1_register_165 (by decide) ?_
            refine lv_icmp_ne (tgt := 173) hx hb dX1_register_166 (by decide) (fun _ => ?_) (fun c => absurd c c_3)
            refine lv_iload_n hx hb dX1_register_173 rfl (lv_at hl 4 rfl) ?_
            refine lv_iconst (v := 2) hx hb dX1_register_174 (by decide) ?_
            refine lv_icmp_ne (tgt := 183) hx hb dX1_register_175 (by decide) (fun _ => ?_) (fun c => absurd c c_4)
            refine lv_bipush (v := 10) hx hb dX1_register_183 (by decide) ?_
            refine lv_istore (lv' := [(5, .int (10 : Int32)), (4, .int (1 : Int32)), (3, .int (fX1_kind p0)), (0, .ref h0), (1, .int p0), (2, .int p1)]) hx hb dX1_register_185 hl (by decide) rfl (fun ls hl => ?_)
            refine lv_iload_n hx hb dX1_register_187 rfl (lv_at hl 4 rfl) ?_
            refine lv_iload hx hb dX1_register_188 (lv_at hl 0 rfl) ?_
            refine lv_iload hx hb dX1_register_190 (lv_at hl 0 rfl) ?_
            refine lv_iconst (v := 4) hx hb dX1_register_192 (by decide) ?_
            refine lv_iadd hx hb dX1_register_193 ?_
            refine va_calli (va_runS (As := [.int p0, .int (10 : Int32), .int ((10 : Int32) + (4 : Int32))]) (rest := []) ⟨hx, hb, hml, hown, hts⟩ (mX1_bits l H_1.size p0 (10 : Int32) ((10 : Int32) + (4 : Int32))) (va_cwS 3 hts gX1_register_X1_bits rfl rfl rfl (by decide +kernel) ⟨Nat.le_of_ble_eq_true rfl, Nat.le_of_ble_eq_true rfl⟩) ⟨fb_pure, fun U hU hW => ⟨rfl, congrArg Array.size hU⟩⟩ rfl rfl hl.1 rfl (lv_room (Nat.le_of_ble_eq_true rfl)) dX1_register_194 ⟨Nat.zero_le _, Nat.zero_le _⟩) hS (fun q _ h => Nat.le_trans hS.1 h) (fun q h => Nat.le_trans hS.1 h) (fun r_7 _ _ H_7 _ _ _ hw _ _ _ hS => ?_)
            subst hw
            exact W.iret (v := (fX1_bits p0 (10 : Int32) ((10 : Int32) + (4 : Int32)))) hx hb hr (fun t ht hW => ⟨⟨(fX1_bits p0 (10 : Int32) ((10 : Int32) + (4 : Int32))), (), rfl, by rw [fX1_register, if_neg c_2, if_neg c_3, if_neg c_4, if_pos c_5, if_pos c_6], trivial⟩, hS.F ht⟩) hS.2.2 dX1_register_197
          · -- not taken
            refine lv_iload_n hx hb dX1_register_136 rfl (lv_at hl 0 rfl) ?_
            refine lv_bipush (v := 11) hx hb dX1_register_137 (by decide) ?_
            refine lv_icmp_ne (tgt := 146) hx hb dX1_register_139 (by decide) (fun c_8 => ?_) (fun c_8 => ?_)
            · -- taken
              refine lv_iconst (v := 0) hx hb dX1_register_146 (by decide) ?_
              refine lv_istore (lv' := [(4, .int (0 : Int32)), (3, .int (fX1_kind p0)), (0, .ref h0), (1, .int p0), (2, .int p1)]) hx hb dX1_register_147 hl (by decide) rfl (fun ls hl => ?_)
              refine lv_iload hx hb dX1_register_149 (lv_at hl 0 rfl) ?_
              refine lv_if_ne (tgt := 156) hx hb dX1_register_151 (by decide) (fun c => absurd c (by decide)) (fun _ => ?_)
              refine lv_iconst (v := -1) hx hb dX1_register_154 (by decide) ?_
              exact W.iret (v := (-1 : Int32)) hx hb hr (fun t ht hW => ⟨⟨(-1 : Int32), (), rfl, by rw [fX1_register, if_neg c_2, if_neg c_3, if_neg c_4, if_pos c_5, if_neg c_6, if_neg c_8], trivial⟩, hS.F ht⟩) hS.2.2 dX1_register_155
            · -- not taken
              refine lv_iconst (v := 1) hx hb dX1_register_142 (by decide) ?_
              refine lv_goto (tgt := 147) hx hb dX1_register_143 (by decide) ?_
              refine lv_istore (lv' := [(4, .int (1 : Int32)), (3, .int (fX1_kind p0)), (0, .ref h0), (1, .int p0), (2, .int p1)]) hx hb dX1_register_147 hl (by decide) rfl (fun ls hl => ?_)
              refine lv_iload hx hb dX1_register_149 (lv_at hl 0 rfl) ?_
              refine lv_if_ne (tgt := 156) hx hb dX1_register_151 (by decide) (fun _ => ?_) (fun c => absurd c (by decide))
              refine lv_iload_n hx hb dX1_register_156 rfl (lv_at hl 4 rfl) ?_
              refine lv_if_ne (tgt := 164) hx hb dX1_register_157 (by decide) (fun _ => ?_) (fun c => absurd c c_2)
              refine lv_iload_n hx hb dX1_register_164 rfl (lv_at hl 4 rfl) ?_
              refine lv_iconst (v := 1) hx hb dX1_register_165 (by decide) ?_
              refine lv_icmp_ne (tgt := 173) hx hb dX1_register_166 (by decide) (fun _ => ?_) (fun c => absurd c c_3)
              refine lv_iload_n hx hb dX1_register_173 rfl (lv_at hl 4 rfl) ?_
              refine lv_iconst (v := 2) hx hb dX1_register_174 (by decide) ?_
              refine lv_icmp_ne (tgt := 183) hx hb dX1_register_175 (by decide) (fun _ => ?_) (fun c => absurd c c_4)
              refine lv_bipush (v := 10) hx hb dX1_register_183 (by decide) ?_
              refine lv_istore (lv' := [(5, .int (10 : Int32)), (4, .int (1 : Int32)), (3, .int (fX1_kind p0)), (0, .ref h0), (1, .int p0), (2, .int p1)]) hx hb dX1_register_185 hl (by decide) rfl (fun ls hl => ?_)
              refine lv_iload_n hx hb dX1_register_187 rfl (lv_at hl 4 rfl) ?_
              refine lv_iload hx hb dX1_register_188 (lv_at hl 0 rfl) ?_
              refine lv_iload hx hb dX1_register_190 (lv_at hl 0 rfl) ?_
              refine lv_iconst (v := 4) hx hb dX1_register_192 (by decide) ?_
              refine lv_iadd hx hb dX1_register_193 ?_
              refine va_calli (va_runS (As := [.int p0, .int (10 : Int32), .int ((10 : Int32) + (4 : Int32))]) (rest := []) ⟨hx, hb, hml, hown, hts⟩ (mX1_bits l H_1.size p0 (10 : Int32) ((10 : Int32) + (4 : Int32))) (va_cwS 3 hts gX1_register_X1_bits rfl rfl rfl (by decide +kernel) ⟨Nat.le_of_ble_eq_true rfl, Nat.le_of_ble_eq_true rfl⟩) ⟨fb_pure, fun U hU hW => ⟨rfl, congrArg Array.size hU⟩⟩ rfl rfl hl.1 rfl (lv_room (Nat.le_of_ble_eq_true rfl)) dX1_register_194 ⟨Nat.zero_le _, Nat.zero_le _⟩) hS (fun q _ h => Nat.le_trans hS.1 h) (fun q h => Nat.le_trans hS.1 h) (fun r_9 _ _ H_9 _ _ _ hw _ _ _ hS => ?_)
              subst hw
              exact W.iret (v := (fX1_bits p0 (10 : Int32) ((10 : Int32) + (4 : Int32)))) hx hb hr (fun t ht hW => ⟨⟨(fX1_bits p0 (10 : Int32) ((10 : Int32) + (4 : Int32))), (), rfl, by rw [fX1_register, if_neg c_2, if_neg c_3, if_neg c_4, if_pos c_5, if_neg c_6, if_pos c_8], trivial⟩, hS.F ht⟩) hS.2.2 dX1_register_197
      · -- not taken
        refine lv_iload_n hx hb dX1_register_90 rfl (lv_at hl 0 rfl) ?_
        refine lv_iconst (v := 2) hx hb dX1_register_91 (by decide) ?_
        refine lv_icmp_eq (tgt := 117) hx hb dX1_register_92 (by decide) (fun c_10 => ?_) (fun c_10 => ?_)
        · -- taken
          refine lv_iconst (v := 1) hx hb dX1_register_117 (by decide) ?_
          refine lv_goto (tgt := 147) hx hb dX1_register_118 (by decide) ?_
          refine lv_istore (lv' := [(4, .int (1 : Int32)), (3, .int (fX1_kind p0)), (0, .ref h0), (1, .int p0), (2, .int p1)]) hx hb dX1_register_147 hl (by decide) rfl (fun ls hl => ?_)
          refine lv_iload hx hb dX1_register_149 (lv_at hl 0 rfl) ?_
          refine lv_if_ne (tgt := 156) hx hb dX1_register_151 (by decide) (fun _ => ?_) (fun c => absurd c (by decide))
          refine lv_iload_n hx hb dX1_register_156 rfl (lv_at hl 4 rfl) ?_
          refine lv_if_ne (tgt := 164) hx hb dX1_register_157 (by decide) (fun _ => ?_) (fun c => absurd c c_2)
          refine lv_iload_n hx hb dX1_register_164 rfl (lv_at hl 4 rfl) ?_
          refine lv_iconst (v := 1) hx hb dX1_register_165 (by decide) ?_
          refine lv_icmp_ne (tgt := 173) hx hb dX1_register_166 (by decide) (fun _ => ?_) (fun c => absurd c c_3)
          refine lv_iload_n hx hb dX1_register_173 rfl (lv_at hl 4 rfl) ?_
          refine lv_iconst (v := 2) hx hb dX1_register_174 (by decide) ?_
          refine lv_icmp_ne (tgt := 183) hx hb dX1_register_175 (by decide) (fun c => absurd c_4 c) (fun _ => ?_)
          refine lv_bipush (v := 16) hx hb dX1_register_178 (by decide) ?_
          refine lv_goto (tgt := 185) hx hb dX1_register_180 (by decide) ?_
          refine lv_istore (lv' := [(5, .int (16 : Int32)), (4, .int (1 : Int32)), (3, .int (fX1_kind p0)), (0, .ref h0), (1, .int p0), (2, .int p1)]) hx hb dX1_register_185 hl (by decide) rfl (fun ls hl => ?_)
          refine lv_iload_n hx hb dX1_register_187 rfl (lv_at hl 4 rfl) ?_
          refine lv_iload hx hb dX1_register_188 (lv_at hl 0 rfl) ?_
          refine lv_iload hx hb dX1_register_190 (lv_at hl 0 rfl) ?_
          refine lv_iconst (v := 4) hx hb dX1_register_192 (by decide) ?_
          refine lv_iadd hx hb dX1_register_193 ?_
          refine va_calli (va_runS (As := [.int p0, .int (16 : Int32), .int ((16 : Int32) + (4 : Int32))]) (rest := []) ⟨hx, hb, hml, hown, hts⟩ (mX1_bits l H_1.size p0 (16 : Int32) ((16 : Int32) + (4 : Int32))) (va_cwS 3 hts gX1_register_X1_bits rfl rfl rfl (by decide +kernel) ⟨Nat.le_of_ble_eq_true rfl, Nat.le_of_ble_eq_true rfl⟩) ⟨fb_pure, fun U hU hW => ⟨rfl, congrArg Array.size hU⟩⟩ rfl rfl hl.1 rfl (lv_room (Nat.le_of_ble_eq_true rfl)) dX1_register_194 ⟨Nat.zero_le _, Nat.zero_le _⟩) hS (fun q _ h => Nat.le_trans hS.1 h) (fun q h => Nat.le_trans hS.1 h) (fun r_11 _ _ H_11 _ _ _ hw _ _ _ hS => ?_)
          subst hw
          exact W.iret (v := (fX1_bits p0 (16 : Int32) ((16 : Int32) + (4 : Int32)))) hx hb hr (fun t ht hW => ⟨⟨(fX1_bits p0 (16 : Int32) ((16 : Int32) + (4 : Int32))), (), rfl, by rw [fX1_register, if_neg c_2, if_neg c_3, if_pos c_4, if_pos c_10], trivial⟩, hS.F ht⟩) hS.2.2 dX1_register_197
        · -- not taken
          refine lv_iload_n hx hb dX1_register_95 rfl (lv_at hl 0 rfl) ?_
          refine lv_iconst (v := 3) hx hb dX1_register_96 (by decide) ?_
          refine lv_icmp_eq (tgt := 117) hx hb dX1_register_97 (by decide) (fun c_12 => ?_) (fun c_12 => ?_)
          · -- taken
            refine lv_iconst (v := 1) hx hb dX1_register_117 (by decide) ?_
            refine lv_goto (tgt := 147) hx hb dX1_register_118 (by decide) ?_
            refine lv_istore (lv' := [(4, .int (1 : Int32)), (3, .int (fX1_kind p0)), (0, .ref h0), (1, .int p0), (2, .int p1)]) hx hb dX1_register_147 hl (by decide) rfl (fun ls hl => ?_)
            refine lv_iload hx hb dX1_register_149 (lv_at hl 0 rfl) ?_
            refine lv_if_ne (tgt := 156) hx hb dX1_register_151 (by decide) (fun _ => ?_) (fun c => absurd c (by decide))
            refine lv_iload_n hx hb dX1_register_156 rfl (lv_at hl 4 rfl) ?_
            refine lv_if_ne (tgt := 164) hx hb dX1_register_157 (by decide) (fun _ => ?_) (fun c => absurd c c_2)
            refine lv_iload_n hx hb dX1_register_164 rfl (lv_at hl 4 rfl) ?_
            refine lv_iconst (v := 1) hx hb dX1_register_165 (by decide) ?_
            refine lv_icmp_ne (tgt := 173) hx hb dX1_register_166 (by decide) (fun _ => ?_) (fun c => absurd c c_3)
            refine lv_iload_n hx hb dX1_register_173 rfl (lv_at hl 4 rfl) ?_
            refine lv_iconst (v := 2) hx hb dX1_register_174 (by decide) ?_
            refine lv_icmp_ne (tgt := 183) hx hb dX1_register_175 (by decide) (fun c => absurd c_4 c) (fun _ => ?_)
            refine lv_bipush (v := 16) hx hb dX1_register_178 (by decide) ?_
            refine lv_goto (tgt := 185) hx hb dX1_register_180 (by decide) ?_
            refine lv_istore (lv' := [(5, .int (16 : Int32)), (4, .int (1 : Int32)), (3, .int (fX1_kind p0)), (0, .ref h0), (1, .int p0), (2, .int p1)]) hx hb dX1_register_185 hl (by decide) rfl (fun ls hl => ?_)
            refine lv_iload_n hx hb dX1_register_187 rfl (lv_at hl 4 rfl) ?_
            refine lv_iload hx hb dX1_register_188 (lv_at hl 0 rfl) ?_
            refine lv_iload hx hb dX1_register_190 (lv_at hl 0 rfl) ?_
            refine lv_iconst (v := 4) hx hb dX1_register_192 (by decide) ?_
            refine lv_iadd hx hb dX1_register_193 ?_
            refine va_calli (va_runS (As := [.int p0, .int (16 : Int32), .int ((16 : Int32) + (4 : Int32))]) (rest := []) ⟨hx, hb, hml, hown, hts⟩ (mX1_bits l H_1.size p0 (16 : Int32) ((16 : Int32) + (4 : Int32))) (va_cwS 3 hts gX1_register_X1_bits rfl rfl rfl (by decide +kernel) ⟨Nat.le_of_ble_eq_true rfl, Nat.le_of_ble_eq_true rfl⟩) ⟨fb_pure, fun U hU hW => ⟨rfl, congrArg Array.size hU⟩⟩ rfl rfl hl.1 rfl (lv_room (Nat.le_of_ble_eq_true rfl)) dX1_register_194 ⟨Nat.zero_le _, Nat.zero_le _⟩) hS (fun q _ h => Nat.le_trans hS.1 h) (fun q h => Nat.le_trans hS.1 h) (fun r_13 _ _ H_13 _ _ _ hw _ _ _ hS => ?_)
            subst hw
            exact W.iret (v := (fX1_bits p0 (16 : Int32) ((16 : Int32) + (4 : Int32)))) hx hb hr (fun t ht hW => ⟨⟨(fX1_bits p0 (16 : Int32) ((16 : Int32) + (4 : Int32))), (), rfl, by rw [fX1_register, if_neg c_2, if_neg c_3, if_pos c_4, if_neg c_10, if_pos c_12], trivial⟩, hS.F ht⟩) hS.2.2 dX1_register_197
          · -- not taken
            refine lv_iload_n hx hb dX1_register_100 rfl (lv_at hl 0 rfl) ?_
            refine lv_iconst (v := 5) hx hb dX1_register_101 (by decide) ?_
            refine lv_icmp_le (tgt := 111) hx hb dX1_register_102 (by decide) (fun c_14 => ?_) (fun c_14 => ?_)
            · -- taken
              refine lv_iload_n hx hb dX1_register_111 rfl (lv_at hl 0 rfl) ?_
              refine lv_bipush (v := 10) hx hb dX1_register_112 (by decide) ?_
              refine lv_icmp_ne (tgt := 121) hx hb dX1_register_114 (by decide) (fun c_15 => ?_) (fun c_15 => ?_)
              · -- taken
                refine lv_iconst (v := 0) hx hb dX1_register_121 (by decide) ?_
                refine lv_goto (tgt := 147) hx hb dX1_register_122 (by decide) ?_
                refine lv_istore (lv' := [(4, .int (0 : Int32)), (3, .int (fX1_kind p0)), (0, .ref h0), (1, .int p0), (2, .int p1)]) hx hb dX1_register_147 hl (by decide) rfl (fun ls hl => ?_)
                refine lv_iload hx hb dX1_register_149 (lv_at hl 0 rfl) ?_
                refine lv_if_ne (tgt := 156) hx hb dX1_register_151 (by decide) (fun c => absurd c (by decide)) (fun _ => ?_)
                refine lv_iconst (v := -1) hx hb dX1_register_154 (by decide) ?_
                exact W.iret (v := (-1 : Int32)) hx hb hr (fun t ht hW => ⟨⟨(-1 : Int32), (), rfl, by rw [fX1_register, if_neg c_2, if_neg c_3, if_pos c_4, if_neg c_10, if_neg c_12, if_pos c_14, if_neg c_15], trivial⟩, hS.F ht⟩) hS.2.2 dX1_register_155
              · -- not taken
                refine lv_iconst (v := 1) hx hb dX1_register_117 (by decide) ?_
                refine lv_goto (tgt := 147) hx hb dX1_register_118 (by decide) ?_
                refine lv_istore (lv' := [(4, .int (1 : Int32)), (3, .int (fX1_kind p0)), (0, .ref h0), (1, .int p0), (2, .int p1)]) hx hb dX1_register_147 hl (by decide) rfl (fun ls hl => ?_)
                refine lv_iload hx hb dX1_register_149 (lv_at hl 0 rfl) ?_
                refine lv_if_ne (tgt := 156) hx hb dX1_register_151 (by decide) (fun _ => ?_) (fun c => absurd c (by decide))
                refine lv_iload_n hx hb dX1_register_156 rfl (lv_at hl 4 rfl) ?_
                refine lv_if_ne (tgt := 164) hx hb dX1_register_157 (by decide) (fun _ => ?_) (fun c => absurd c c_2)
                refine lv_iload_n hx hb dX1_register_164 rfl (lv_at hl 4 rfl) ?_
                refine lv_iconst (v := 1) hx hb dX1_register_165 (by decide) ?_
                refine lv_icmp_ne (tgt := 173) hx hb dX1_register_166 (by decide) (fun _ => ?_) (fun c => absurd c c_3)
                refine lv_iload_n hx hb dX1_register_173 rfl (lv_at hl 4 rfl) ?_
                refine lv_iconst (v := 2) hx hb dX1_register_174 (by decide) ?_
                refine lv_icmp_ne (tgt := 183) hx hb dX1_register_175 (by decide) (fun c => absurd c_4 c) (fun _ => ?_)
                refine lv_bipush (v := 16) hx hb dX1_register_178 (by decide) ?_
                refine lv_goto (tgt := 185) hx hb dX1_register_180 (by decide) ?_
                refine lv_istore (lv' := [(5, .int (16 : Int32)), (4, .int (1 : Int32)), (3, .int (fX1_kind p0)), (0, .ref h0), (1, .int p0), (2, .int p1)]) hx hb dX1_register_185 hl (by decide) rfl (fun ls hl => ?_)
                refine lv_iload_n hx hb dX1_register_187 rfl (lv_at hl 4 rfl) ?_
                refine lv_iload hx hb dX1_register_188 (lv_at hl 0 rfl) ?_
                refine lv_iload hx hb dX1_register_190 (lv_at hl 0 rfl) ?_
                refine lv_iconst (v := 4) hx hb dX1_register_192 (by decide) ?_
                refine lv_iadd hx hb dX1_register_193 ?_
                refine va_calli (va_runS (As := [.int p0, .int (16 : Int32), .int ((16 : Int32) + (4 : Int32))]) (rest := []) ⟨hx, hb, hml, hown, hts⟩ (mX1_bits l H_1.size p0 (16 : Int32) ((16 : Int32) + (4 : Int32))) (va_cwS 3 hts gX1_register_X1_bits rfl rfl rfl (by decide +kernel) ⟨Nat.le_of_ble_eq_true rfl, Nat.le_of_ble_eq_true rfl⟩) ⟨fb_pure, fun U hU hW => ⟨rfl, congrArg Array.size hU⟩⟩ rfl rfl hl.1 rfl (lv_room (Nat.le_of_ble_eq_true rfl)) dX1_register_194 ⟨Nat.zero_le _, Nat.zero_le _⟩) hS (fun q _ h => Nat.le_trans hS.1 h) (fun q h => Nat.le_trans hS.1 h) (fun r_16 _ _ H_16 _ _ _ hw _ _ _ hS => ?_)
                subst hw
                exact W.iret (v := (fX1_bits p0 (16 : Int32) ((16 : Int32) + (4 : Int32)))) hx hb hr (fun t ht hW => ⟨⟨(fX1_bits p0 (16 : Int32) ((16 : Int32) + (4 : Int32))), (), rfl, by rw [fX1_register, if_neg c_2, if_neg c_3, if_pos c_4, if_neg c_10, if_neg c_12, if_pos c_14, if_pos c_15], trivial⟩, hS.F ht⟩) hS.2.2 dX1_register_197
            · -- not taken
              refine lv_iload_n hx hb dX1_register_105 rfl (lv_at hl 0 rfl) ?_
              refine lv_bipush (v := 9) hx hb dX1_register_106 (by decide) ?_
              refine lv_icmp_lt (tgt := 117) hx hb dX1_register_108 (by decide) (fun c_17 => ?_) (fun c_17 => ?_)
              · -- taken
                refine lv_iconst (v := 1) hx hb dX1_register_117 (by decide) ?_
                refine lv_goto (tgt := 147) hx hb dX1_register_118 (by decide) ?_
                refine lv_istore (lv' := [(4, .int (1 : Int32)), (3, .int (fX1_kind p0)), (0, .ref h0), (1, .int p0), (2, .int p1)]) hx hb dX1_register_147 hl (by decide) rfl (fun ls hl => ?_)
                refine lv_iload hx hb dX1_register_149 (lv_at hl 0 rfl) ?_
                refine lv_if_ne (tgt := 156) hx hb dX1_register_151 (by decide) (fun _ => ?_) (fun c => absurd c (by decide))
                refine lv_iload_n hx hb dX1_register_156 rfl (lv_at hl 4 rfl) ?_
                refine lv_if_ne (tgt := 164) hx hb dX1_register_157 (by decide) (fun _ => ?_) (fun c => absurd c c_2)
                refine lv_iload_n hx hb dX1_register_164 rfl (lv_at hl 4 rfl) ?_
                refine lv_iconst (v := 1) hx hb dX1_register_165 (by decide) ?_
                refine lv_icmp_ne (tgt := 173) hx hb dX1_register_166 (by decide) (fun _ => ?_) (fun c => absurd c c_3)
                refine lv_iload_n hx hb dX1_register_173 rfl (lv_at hl 4 rfl) ?_
                refine lv_iconst (v := 2) hx hb dX1_register_174 (by decide) ?_
                refine lv_icmp_ne (tgt := 183) hx hb dX1_register_175 (by decide) (fun c => absurd c_4 c) (fun _ => ?_)
                refine lv_bipush (v := 16) hx hb dX1_register_178 (by decide) ?_
                refine lv_goto (tgt := 185) hx hb dX1_register_180 (by decide) ?_
                refine lv_istore (lv' := [(5, .int (16 : Int32)), (4, .int (1 : Int32)), (3, .int (fX1_kind p0)), (0, .ref h0), (1, .int p0), (2, .int p1)]) hx hb dX1_register_185 hl (by decide) rfl (fun ls hl => ?_)
                refine lv_iload_n hx hb dX1_register_187 rfl (lv_at hl 4 rfl) ?_
                refine lv_iload hx hb dX1_register_188 (lv_at hl 0 rfl) ?_
                refine lv_iload hx hb dX1_register_190 (lv_at hl 0 rfl) ?_
                refine lv_iconst (v := 4) hx hb dX1_register_192 (by decide) ?_
                refine lv_iadd hx hb dX1_register_193 ?_
                refine va_calli (va_runS (As := [.int p0, .int (16 : Int32), .int ((16 : Int32) + (4 : Int32))]) (rest := []) ⟨hx, hb, hml, hown, hts⟩ (mX1_bits l H_1.size p0 (16 : Int32) ((16 : Int32) + (4 : Int32))) (va_cwS 3 hts gX1_register_X1_bits rfl rfl rfl (by decide +kernel) ⟨Nat.le_of_ble_eq_true rfl, Nat.le_of_ble_eq_true rfl⟩) ⟨fb_pure, fun U hU hW => ⟨rfl, congrArg Array.size hU⟩⟩ rfl rfl hl.1 rfl (lv_room (Nat.le_of_ble_eq_true rfl)) dX1_register_194 ⟨Nat.zero_le _, Nat.zero_le _⟩) hS (fun q _ h => Nat.le_trans hS.1 h) (fun q h => Nat.le_trans hS.1 h) (fun r_18 _ _ H_18 _ _ _ hw _ _ _ hS => ?_)
                subst hw
                exact W.iret (v := (fX1_bits p0 (16 : Int32) ((16 : Int32) + (4 : Int32)))) hx hb hr (fun t ht hW => ⟨⟨(fX1_bits p0 (16 : Int32) ((16 : Int32) + (4 : Int32))), (), rfl, by rw [fX1_register, if_neg c_2, if_neg c_3, if_pos c_4, if_neg c_10, if_neg c_12, if_neg c_14, if_pos c_17], trivial⟩, hS.F ht⟩) hS.2.2 dX1_register_197
              · -- not taken
                refine lv_iload_n hx hb dX1_register_111 rfl (lv_at hl 0 rfl) ?_
                refine lv_bipush (v := 10) hx hb dX1_register_112 (by decide) ?_
                refine lv_icmp_ne (tgt := 121) hx hb dX1_register_114 (by decide) (fun c_19 => ?_) (fun c_19 => ?_)
                · -- taken
                  refine lv_iconst (v := 0) hx hb dX1_register_121 (by decide) ?_
                  refine lv_goto (tgt := 147) hx hb dX1_register_122 (by decide) ?_
                  refine lv_istore (lv' := [(4, .int (0 : Int32)), (3, .int (fX1_kind p0)), (0, .ref h0), (1, .int p0), (2, .int p1)]) hx hb dX1_register_147 hl (by decide) rfl (fun ls hl => ?_)
                  refine lv_iload hx hb dX1_register_149 (lv_at hl 0 rfl) ?_
                  refine lv_if_ne (tgt := 156) hx hb dX1_register_151 (by decide) (fun c => absurd c (by decide)) (fun _ => ?_)
                  refine lv_iconst (v := -1) hx hb dX1_register_154 (by decide) ?_
                  exact W.iret (v := (-1 : Int32)) hx hb hr (fun t ht hW => ⟨⟨(-1 : Int32), (), rfl, by rw [fX1_register, if_neg c_2, if_neg c_3, if_pos c_4, if_neg c_10, if_neg c_12, if_neg c_14, if_neg c_17, if_neg c_19], trivial⟩, hS.F ht⟩) hS.2.2 dX1_register_155
                · -- not taken
                  refine lv_iconst (v := 1) hx hb dX1_register_117 (by decide) ?_
                  refine lv_goto (tgt := 147) hx hb dX1_register_118 (by decide) ?_
                  refine lv_istore (lv' := [(4, .int (1 : Int32)), (3, .int (fX1_kind p0)), (0, .ref h0), (1, .int p0), (2, .int p1)]) hx hb dX1_register_147 hl (by decide) rfl (fun ls hl => ?_)
                  refine lv_iload hx hb dX1_register_149 (lv_at hl 0 rfl) ?_
                  refine lv_if_ne (tgt := 156) hx hb dX1_register_151 (by decide) (fun _ => ?_) (fun c => absurd c (by decide))
                  refine lv_iload_n hx hb dX1_register_156 rfl (lv_at hl 4 rfl) ?_
                  refine lv_if_ne (tgt := 164) hx hb dX1_register_157 (by decide) (fun _ => ?_) (fun c => absurd c c_2)
                  refine lv_iload_n hx hb dX1_register_164 rfl (lv_at hl 4 rfl) ?_
                  refine lv_iconst (v := 1) hx hb dX1_register_165 (by decide) ?_
                  refine lv_icmp_ne (tgt := 173) hx hb dX1_register_166 (by decide) (fun _ => ?_) (fun c => absurd c c_3)
                  refine lv_iload_n hx hb dX1_register_173 rfl (lv_at hl 4 rfl) ?_
                  refine lv_iconst (v := 2) hx hb dX1_register_174 (by decide) ?_
                  refine lv_icmp_ne (tgt := 183) hx hb dX1_register_175 (by decide) (fun c => absurd c_4 c) (fun _ => ?_)
                  refine lv_bipush (v := 16) hx hb dX1_register_178 (by decide) ?_
                  refine lv_goto (tgt := 185) hx hb dX1_register_180 (by decide) ?_
                  refine lv_istore (lv' := [(5, .int (16 : Int32)), (4, .int (1 : Int32)), (3, .int (fX1_kind p0)), (0, .ref h0), (1, .int p0), (2, .int p1)]) hx hb dX1_register_185 hl (by decide) rfl (fun ls hl => ?_)
                  refine lv_iload_n hx hb dX1_register_187 rfl (lv_at hl 4 rfl) ?_
                  refine lv_iload hx hb dX1_register_188 (lv_at hl 0 rfl) ?_
                  refine lv_iload hx hb dX1_register_190 (lv_at hl 0 rfl) ?_
                  refine lv_iconst (v := 4) hx hb dX1_register_192 (by decide) ?_
                  refine lv_iadd hx hb dX1_register_193 ?_
                  refine va_calli (va_runS (As := [.int p0, .int (16 : Int32), .int ((16 : Int32) + (4 : Int32))]) (rest := []) ⟨hx, hb, hml, hown, hts⟩ (mX1_bits l H_1.size p0 (16 : Int32) ((16 : Int32) + (4 : Int32))) (va_cwS 3 hts gX1_register_X1_bits rfl rfl rfl (by decide +kernel) ⟨Nat.le_of_ble_eq_true rfl, Nat.le_of_ble_eq_true rfl⟩) ⟨fb_pure, fun U hU hW => ⟨rfl, congrArg Array.size hU⟩⟩ rfl rfl hl.1 rfl (lv_room (Nat.le_of_ble_eq_true rfl)) dX1_register_194 ⟨Nat.zero_le _, Nat.zero_le _⟩) hS (fun q _ h => Nat.le_trans hS.1 h) (fun q h => Nat.le_trans hS.1 h) (fun r_20 _ _ H_20 _ _ _ hw _ _ _ hS => ?_)
                  subst hw
                  exact W.iret (v := (fX1_bits p0 (16 : Int32) ((16 : Int32) + (4 : Int32)))) hx hb hr (fun t ht hW => ⟨⟨(fX1_bits p0 (16 : Int32) ((16 : Int32) + (4 : Int32))), (), rfl, by rw [fX1_register, if_neg c_2, if_neg c_3, if_pos c_4, if_neg c_10, if_neg c_12, if_neg c_14, if_neg c_17, if_pos c_19], trivial⟩, hS.F ht⟩) hS.2.2 dX1_register_197
    · -- not taken
      refine lv_iload_n hx hb dX1_register_45 rfl (lv_at hl 0 rfl) ?_
      refine lv_if_le (tgt := 54) hx hb dX1_register_46 (by decide) (fun c_21 => ?_) (fun c_21 => ?_)
      · -- taken
        refine lv_iload_n hx hb dX1_register_54 rfl (lv_at hl 0 rfl) ?_
        refine lv_iconst (v := 5) hx hb dX1_register_55 (by decide) ?_
        refine lv_icmp_le (tgt := 65) hx hb dX1_register_56 (by decide) (fun c_22 => ?_) (fun c_22 => ?_)
        · -- taken
          refine lv_iload_n hx hb dX1_register_65 rfl (lv_at hl 0 rfl) ?_
          refine lv_bipush (v := 16) hx hb dX1_register_66 (by decide) ?_
          refine lv_icmp_le (tgt := 81) hx hb dX1_register_68 (by decide) (fun c_23 => ?_) (fun c_23 => ?_)
          · -- taken
            refine lv_iconst (v := 0) hx hb dX1_register_81 (by decide) ?_
            refine lv_goto (tgt := 147) hx hb dX1_register_82 (by decide) ?_
            refine lv_istore (lv' := [(4, .int (0 : Int32)), (3, .int (fX1_kind p0)), (0, .ref h0), (1, .int p0), (2, .int p1)]) hx hb dX1_register_147 hl (by decide) rfl (fun ls hl => ?_)
            refine lv_iload hx hb dX1_register_149 (lv_at hl 0 rfl) ?_
            refine lv_if_ne (tgt := 156) hx hb dX1_register_151 (by decide) (fun c => absurd c (by decide)) (fun _ => ?_)
            refine lv_iconst (v := -1) hx hb dX1_register_154 (by decide) ?_
            exact W.iret (v := (-1 : Int32)) hx hb hr (fun t ht hW => ⟨⟨(-1 : Int32), (), rfl, by rw [fX1_register, if_neg c_2, if_pos c_3, if_pos c_21, if_pos c_22, if_pos c_23], trivial⟩, hS.F ht⟩) hS.2.2 dX1_register_155
          · -- not taken
            refine lv_iload_n hx hb dX1_register_71 rfl (lv_at hl 0 rfl) ?_
            refine lv_bipush (v := 20) hx hb dX1_register_72 (by decide) ?_
            refine lv_icmp_ge (tgt := 81) hx hb dX1_register_74 (by decide) (fun c_24 => ?_) (fun c_24 => ?_)
            · -- taken
              refine lv_iconst (v := 0) hx hb dX1_register_81 (by decide) ?_
              refine lv_goto (tgt := 147) hx hb dX1_register_82 (by decide) ?_
              refine lv_istore (lv' := [(4, .int (0 : Int32)), (3, .int (fX1_kind p0)), (0, .ref h0), (1, .int p0), (2, .int p1)]) hx hb dX1_register_147 hl (by decide) rfl (fun ls hl => ?_)
              refine lv_iload hx hb dX1_register_149 (lv_at hl 0 rfl) ?_
              refine lv_if_ne (tgt := 156) hx hb dX1_register_151 (by decide) (fun c => absurd c (by decide)) (fun _ => ?_)
              refine lv_iconst (v := -1) hx hb dX1_register_154 (by decide) ?_
              exact W.iret (v := (-1 : Int32)) hx hb hr (fun t ht hW => ⟨⟨(-1 : Int32), (), rfl, by rw [fX1_register, if_neg c_2, if_pos c_3, if_pos c_21, if_pos c_22, if_neg c_23, if_pos c_24], trivial⟩, hS.F ht⟩) hS.2.2 dX1_register_155
            · -- not taken
              refine lv_iconst (v := 1) hx hb dX1_register_77 (by decide) ?_
              refine lv_goto (tgt := 147) hx hb dX1_register_78 (by decide) ?_
              refine lv_istore (lv' := [(4, .int (1 : Int32)), (3, .int (fX1_kind p0)), (0, .ref h0), (1, .int p0), (2, .int p1)]) hx hb dX1_register_147 hl (by decide) rfl (fun ls hl => ?_)
              refine lv_iload hx hb dX1_register_149 (lv_at hl 0 rfl) ?_
              refine lv_if_ne (tgt := 156) hx hb dX1_register_151 (by decide) (fun _ => ?_) (fun c => absurd c (by decide))
              refine lv_iload_n hx hb dX1_register_156 rfl (lv_at hl 4 rfl) ?_
              refine lv_if_ne (tgt := 164) hx hb dX1_register_157 (by decide) (fun _ => ?_) (fun c => absurd c c_2)
              refine lv_iload_n hx hb dX1_register_164 rfl (lv_at hl 4 rfl) ?_
              refine lv_iconst (v := 1) hx hb dX1_register_165 (by decide) ?_
              refine lv_icmp_ne (tgt := 173) hx hb dX1_register_166 (by decide) (fun c => absurd c_3 c) (fun _ => ?_)
              refine lv_iconst (v := 5) hx hb dX1_register_169 (by decide) ?_
              refine lv_goto (tgt := 185) hx hb dX1_register_170 (by decide) ?_
              refine lv_istore (lv' := [(5, .int (5 : Int32)), (4, .int (1 : Int32)), (3, .int (fX1_kind p0)), (0, .ref h0), (1, .int p0), (2, .int p1)]) hx hb dX1_register_185 hl (by decide) rfl (fun ls hl => ?_)
              refine lv_iload_n hx hb dX1_register_187 rfl (lv_at hl 4 rfl) ?_
              refine lv_iload hx hb dX1_register_188 (lv_at hl 0 rfl) ?_
              refine lv_iload hx hb dX1_register_190 (lv_at hl 0 rfl) ?_
              refine lv_iconst (v := 4) hx hb dX1_register_192 (by decide) ?_
              refine lv_iadd hx hb dX1_register_193 ?_
              refine va_calli (va_runS (As := [.int p0, .int (5 : Int32), .int ((5 : Int32) + (4 : Int32))]) (rest := []) ⟨hx, hb, hml, hown, hts⟩ (mX1_bits l H_1.size p0 (5 : Int32) ((5 : Int32) + (4 : Int32))) (va_cwS 3 hts gX1_register_X1_bits rfl rfl rfl (by decide +kernel) ⟨Nat.le_of_ble_eq_true rfl, Nat.le_of_ble_eq_true rfl⟩) ⟨fb_pure, fun U hU hW => ⟨rfl, congrArg Array.size hU⟩⟩ rfl rfl hl.1 rfl (lv_room (Nat.le_of_ble_eq_true rfl)) dX1_register_194 ⟨Nat.zero_le _, Nat.zero_le _⟩) hS (fun q _ h => Nat.le_trans hS.1 h) (fun q h => Nat.le_trans hS.1 h) (fun r_25 _ _ H_25 _ _ _ hw _ _ _ hS => ?_)
              subst hw
              exact W.iret (v := (fX1_bits p0 (5 : Int32) ((5 : Int32) + (4 : Int32)))) hx hb hr (fun t ht hW => ⟨⟨(fX1_bits p0 (5 : Int32) ((5 : Int32) + (4 : Int32))), (), rfl, by rw [fX1_register, if_neg c_2, if_pos c_3, if_pos c_21, if_pos c_22, if_neg c_23, if_neg c_24], trivial⟩, hS.F ht⟩) hS.2.2 dX1_register_197
        · -- not taken
          refine lv_iload_n hx hb dX1_register_59 rfl (lv_at hl 0 rfl) ?_
          refine lv_bipush (v := 12) hx hb dX1_register_60 (by decide) ?_
          refine lv_icmp_lt (tgt := 77) hx hb dX1_register_62 (by decide) (fun c_26 => ?_) (fun c_26 => ?_)
          · -- taken
            refine lv_iconst (v := 1) hx hb dX1_register_77 (by decide) ?_
            refine lv_goto (tgt := 147) hx hb dX1_register_78 (by decide) ?_
            refine lv_istore (lv' := [(4, .int (1 : Int32)), (3, .int (fX1_kind p0)), (0, .ref h0), (1, .int p0), (2, .int p1)]) hx hb dX1_register_147 hl (by decide) rfl (fun ls hl => ?_)
            refine lv_iload hx hb dX1_register_149 (lv_at hl 0 rfl) ?_
            refine lv_if_ne (tgt := 156) hx hb dX1_register_151 (by decide) (fun _ => ?_) (fun c => absurd c (by decide))
            refine lv_iload_n hx hb dX1_register_156 rfl (lv_at hl 4 rfl) ?_
            refine lv_if_ne (tgt := 164) hx hb dX1_register_157 (by decide) (fun _ => ?_) (fun c => absurd c c_2)
            refine lv_iload_n hx hb dX1_register_164 rfl (lv_at hl 4 rfl) ?_
            refine lv_iconst (v := 1) hx hb dX1_register_165 (by decide) ?_
            refine lv_icmp_ne (tgt := 173) hx hb dX1_register_166 (by decide) (fun c => absurd c_3 c) (fun _ => ?_)
            refine lv_iconst (v := 5) hx hb dX1_register_169 (by decide) ?_
            refine lv_goto (tgt := 185) hx hb dX1_register_170 (by decide) ?_
            refine lv_istore (lv' := [(5, .int (5 : Int32)), (4, .int (1 : Int32)), (3, .int (fX1_kind p0)), (0, .ref h0), (1, .int p0), (2, .int p1)]) hx hb dX1_register_185 hl (by decide) rfl (fun ls hl => ?_)
            refine lv_iload_n hx hb dX1_register_187 rfl (lv_at hl 4 rfl) ?_
            refine lv_iload hx hb dX1_register_188 (lv_at hl 0 rfl) ?_
            refine lv_iload hx hb dX1_register_190 (lv_at hl 0 rfl) ?_
            refine lv_iconst (v := 4) hx hb dX1_register_192 (by decide) ?_
            refine lv_iadd hx hb dX1_register_193 ?_
            refine va_calli (va_runS (As := [.int p0, .int (5 : Int32), .int ((5 : Int32) + (4 : Int32))]) (rest := []) ⟨hx, hb, hml, hown, hts⟩ (mX1_bits l H_1.size p0 (5 : Int32) ((5 : Int32) + (4 : Int32))) (va_cwS 3 hts gX1_register_X1_bits rfl rfl rfl (by decide +kernel) ⟨Nat.le_of_ble_eq_true rfl, Nat.le_of_ble_eq_true rfl⟩) ⟨fb_pure, fun U hU hW => ⟨rfl, congrArg Array.size hU⟩⟩ rfl rfl hl.1 rfl (lv_room (Nat.le_of_ble_eq_true rfl)) dX1_register_194 ⟨Nat.zero_le _, Nat.zero_le _⟩) hS (fun q _ h => Nat.le_trans hS.1 h) (fun q h => Nat.le_trans hS.1 h) (fun r_27 _ _ H_27 _ _ _ hw _ _ _ hS => ?_)
            subst hw
            exact W.iret (v := (fX1_bits p0 (5 : Int32) ((5 : Int32) + (4 : Int32)))) hx hb hr (fun t ht hW => ⟨⟨(fX1_bits p0 (5 : Int32) ((5 : Int32) + (4 : Int32))), (), rfl, by rw [fX1_register, if_neg c_2, if_pos c_3, if_pos c_21, if_neg c_22, if_pos c_26], trivial⟩, hS.F ht⟩) hS.2.2 dX1_register_197
          · -- not taken
            refine lv_iload_n hx hb dX1_register_65 rfl (lv_at hl 0 rfl) ?_
            refine lv_bipush (v := 16) hx hb dX1_register_66 (by decide) ?_
            refine lv_icmp_le (tgt := 81) hx hb dX1_register_68 (by decide) (fun c_28 => ?_) (fun c_28 => ?_)
            · -- taken
              refine lv_iconst (v := 0) hx hb dX1_register_81 (by decide) ?_
              refine lv_goto (tgt := 147) hx hb dX1_register_82 (by decide) ?_
              refine lv_istore (lv' := [(4, .int (0 : Int32)), (3, .int (fX1_kind p0)), (0, .ref h0), (1, .int p0), (2, .int p1)]) hx hb dX1_register_147 hl (by decide) rfl (fun ls hl => ?_)
              refine lv_iload hx hb dX1_register_149 (lv_at hl 0 rfl) ?_
              refine lv_if_ne (tgt := 156) hx hb dX1_register_151 (by decide) (fun c => absurd c (by decide)) (fun _ => ?_)
              refine lv_iconst (v := -1) hx hb dX1_register_154 (by decide) ?_
              exact W.iret (v := (-1 : Int32)) hx hb hr (fun t ht hW => ⟨⟨(-1 : Int32), (), rfl, by rw [fX1_register, if_neg c_2, if_pos c_3, if_pos c_21, if_neg c_22, if_neg c_26, if_pos c_28], trivial⟩, hS.F ht⟩) hS.2.2 dX1_register_155
            · -- not taken
              refine lv_iload_n hx hb dX1_register_71 rfl (lv_at hl 0 rfl) ?_
              refine lv_bipush (v := 20) hx hb dX1_register_72 (by decide) ?_
              refine lv_icmp_ge (tgt := 81) hx hb dX1_register_74 (by decide) (fun c_29 => ?_) (fun c_29 => ?_)
              · -- taken
                refine lv_iconst (v := 0) hx hb dX1_register_81 (by decide) ?_
                refine lv_goto (tgt := 147) hx hb dX1_register_82 (by decide) ?_
                refine lv_istore (lv' := [(4, .int (0 : Int32)), (3, .int (fX1_kind p0)), (0, .ref h0), (1, .int p0), (2, .int p1)]) hx hb dX1_register_147 hl (by decide) rfl (fun ls hl => ?_)
                refine lv_iload hx hb dX1_register_149 (lv_at hl 0 rfl) ?_
                refine lv_if_ne (tgt := 156) hx hb dX1_register_151 (by decide) (fun c => absurd c (by decide)) (fun _ => ?_)
                refine lv_iconst (v := -1) hx hb dX1_register_154 (by decide) ?_
                exact W.iret (v := (-1 : Int32)) hx hb hr (fun t ht hW => ⟨⟨(-1 : Int32), (), rfl, by rw [fX1_register, if_neg c_2, if_pos c_3, if_pos c_21, if_neg c_22, if_neg c_26, if_neg c_28, if_pos c_29], trivial⟩, hS.F ht⟩) hS.2.2 dX1_register_155
              · -- not taken
                refine lv_iconst (v := 1) hx hb dX1_register_77 (by decide) ?_
                refine lv_goto (tgt := 147) hx hb dX1_register_78 (by decide) ?_
                refine lv_istore (lv' := [(4, .int (1 : Int32)), (3, .int (fX1_kind p0)), (0, .ref h0), (1, .int p0), (2, .int p1)]) hx hb dX1_register_147 hl (by decide) rfl (fun ls hl => ?_)
                refine lv_iload hx hb dX1_register_149 (lv_at hl 0 rfl) ?_
                refine lv_if_ne (tgt := 156) hx hb dX1_register_151 (by decide) (fun _ => ?_) (fun c => absurd c (by decide))
                refine lv_iload_n hx hb dX1_register_156 rfl (lv_at hl 4 rfl) ?_
                refine lv_if_ne (tgt := 164) hx hb dX1_register_157 (by decide) (fun _ => ?_) (fun c => absurd c c_2)
                refine lv_iload_n hx hb dX1_register_164 rfl (lv_at hl 4 rfl) ?_
                refine lv_iconst (v := 1) hx hb dX1_register_165 (by decide) ?_
                refine lv_icmp_ne (tgt := 173) hx hb dX1_register_166 (by decide) (fun c => absurd c_3 c) (fun _ => ?_)
                refine lv_iconst (v := 5) hx hb dX1_register_169 (by decide) ?_
                refine lv_goto (tgt := 185) hx hb dX1_register_170 (by decide) ?_
                refine lv_istore (lv' := [(5, .int (5 : Int32)), (4, .int (1 : Int32)), (3, .int (fX1_kind p0)), (0, .ref h0), (1, .int p0), (2, .int p1)]) hx hb dX1_register_185 hl (by decide) rfl (fun ls hl => ?_)
                refine lv_iload_n hx hb dX1_register_187 rfl (lv_at hl 4 rfl) ?_
                refine lv_iload hx hb dX1_register_188 (lv_at hl 0 rfl) ?_
                refine lv_iload hx hb dX1_register_190 (lv_at hl 0 rfl) ?_
                refine lv_iconst (v := 4) hx hb dX1_register_192 (by decide) ?_
                refine lv_iadd hx hb dX1_register_193 ?_
                refine va_calli (va_runS (As := [.int p0, .int (5 : Int32), .int ((5 : Int32) + (4 : Int32))]) (rest := []) ⟨hx, hb, hml, hown, hts⟩ (mX1_bits l H_1.size p0 (5 : Int32) ((5 : Int32) + (4 : Int32))) (va_cwS 3 hts gX1_register_X1_bits rfl rfl rfl (by decide +kernel) ⟨Nat.le_of_ble_eq_true rfl, Nat.le_of_ble_eq_true rfl⟩) ⟨fb_pure, fun U hU hW => ⟨rfl, congrArg Array.size hU⟩⟩ rfl rfl hl.1 rfl (lv_room (Nat.le_of_ble_eq_true rfl)) dX1_register_194 ⟨Nat.zero_le _, Nat.zero_le _⟩) hS (fun q _ h => Nat.le_trans hS.1 h) (fun q h => Nat.le_trans hS.1 h) (fun r_30 _ _ H_30 _ _ _ hw _ _ _ hS => ?_)
                subst hw
                exact W.iret (v := (fX1_bits p0 (5 : Int32) ((5 : Int32) + (4 : Int32)))) hx hb hr (fun t ht hW => ⟨⟨(fX1_bits p0 (5 : Int32) ((5 : Int32) + (4 : Int32))), (), rfl, by rw [fX1_register, if_neg c_2, if_pos c_3, if_pos c_21, if_neg c_22, if_neg c_26, if_neg c_28, if_neg c_29], trivial⟩, hS.F ht⟩) hS.2.2 dX1_register_197
      · -- not taken
        refine lv_iload_n hx hb dX1_register_49 rfl (lv_at hl 0 rfl) ?_
        refine lv_iconst (v := 4) hx hb dX1_register_50 (by decide) ?_
        refine lv_icmp_lt (tgt := 77) hx hb dX1_register_51 (by decide) (fun c_31 => ?_) (fun c_31 => ?_)
        · -- taken
          refine lv_iconst (v := 1) hx hb dX1_register_77 (by decide) ?_
          refine lv_goto (tgt := 147) hx hb dX1_register_78 (by decide) ?_
          refine lv_istore (lv' := [(4, .int (1 : Int32)), (3, .int (fX1_kind p0)), (0, .ref h0), (1, .int p0), (2, .int p1)]) hx hb dX1_register_147 hl (by decide) rfl (fun ls hl => ?_)
          refine lv_iload hx hb dX1_register_149 (lv_at hl 0 rfl) ?_
          refine lv_if_ne (tgt := 156) hx hb dX1_register_151 (by decide) (fun _ => ?_) (fun c => absurd c (by decide))
          refine lv_iload_n hx hb dX1_register_156 rfl (lv_at hl 4 rfl) ?_
          refine lv_if_ne (tgt := 164) hx hb dX1_register_157 (by decide) (fun _ => ?_) (fun c => absurd c c_2)
          refine lv_iload_n hx hb dX1_register_164 rfl (lv_at hl 4 rfl) ?_
          refine lv_iconst (v := 1) hx hb dX1_register_165 (by decide) ?_
          refine lv_icmp_ne (tgt := 173) hx hb dX1_register_166 (by decide) (fun c => absurd c_3 c) (fun _ => ?_)
          refine lv_iconst (v := 5) hx hb dX1_register_169 (by decide) ?_
          refine lv_goto (tgt := 185) hx hb dX1_register_170 (by decide) ?_
          refine lv_istore (lv' := [(5, .int (5 : Int32)), (4, .int (1 : Int32)), (3, .int (fX1_kind p0)), (0, .ref h0), (1, .int p0), (2, .int p1)]) hx hb dX1_register_185 hl (by decide) rfl (fun ls hl => ?_)
          refine lv_iload_n hx hb dX1_register_187 rfl (lv_at hl 4 rfl) ?_
          refine lv_iload hx hb dX1_register_188 (lv_at hl 0 rfl) ?_
          refine lv_iload hx hb dX1_register_190 (lv_at hl 0 rfl) ?_
          refine lv_iconst (v := 4) hx hb dX1_register_192 (by decide) ?_
          refine lv_iadd hx hb dX1_register_193 ?_
          refine va_calli (va_runS (As := [.int p0, .int (5 : Int32), .int ((5 : Int32) + (4 : Int32))]) (rest := []) ⟨hx, hb, hml, hown, hts⟩ (mX1_bits l H_1.size p0 (5 : Int32) ((5 : Int32) + (4 : Int32))) (va_cwS 3 hts gX1_register_X1_bits rfl rfl rfl (by decide +kernel) ⟨Nat.le_of_ble_eq_true rfl, Nat.le_of_ble_eq_true rfl⟩) ⟨fb_pure, fun U hU hW => ⟨rfl, congrArg Array.size hU⟩⟩ rfl rfl hl.1 rfl (lv_room (Nat.le_of_ble_eq_true rfl)) dX1_register_194 ⟨Nat.zero_le _, Nat.zero_le _⟩) hS (fun q _ h => Nat.le_trans hS.1 h) (fun q h => Nat.le_trans hS.1 h) (fun r_32 _ _ H_32 _ _ _ hw _ _ _ hS => ?_)
          subst hw
          exact W.iret (v := (fX1_bits p0 (5 : Int32) ((5 : Int32) + (4 : Int32)))) hx hb hr (fun t ht hW => ⟨⟨(fX1_bits p0 (5 : Int32) ((5 : Int32) + (4 : Int32))), (), rfl, by rw [fX1_register, if_neg c_2, if_pos c_3, if_neg c_21, if_pos c_31], trivial⟩, hS.F ht⟩) hS.2.2 dX1_register_197
        · -- not taken
          refine lv_iload_n hx hb dX1_register_54 rfl (lv_at hl 0 rfl) ?_
          refine lv_iconst (v := 5) hx hb dX1_register_55 (by decide) ?_
          refine lv_icmp_le (tgt := 65) hx hb dX1_register_56 (by decide) (fun c_33 => ?_) (fun c_33 => ?_)
          · -- taken
            refine lv_iload_n hx hb dX1_register_65 rfl (lv_at hl 0 rfl) ?_
            refine lv_bipush (v := 16) hx hb dX1_register_66 (by decide) ?_
            refine lv_icmp_le (tgt := 81) hx hb dX1_register_68 (by decide) (fun c_34 => ?_) (fun c_34 => ?_)
            · -- taken
              refine lv_iconst (v := 0) hx hb dX1_register_81 (by decide) ?_
              refine lv_goto (tgt := 147) hx hb dX1_register_82 (by decide) ?_
              refine lv_istore (lv' := [(4, .int (0 : Int32)), (3, .int (fX1_kind p0)), (0, .ref h0), (1, .int p0), (2, .int p1)]) hx hb dX1_register_147 hl (by decide) rfl (fun ls hl => ?_)
              refine lv_iload hx hb dX1_register_149 (lv_at hl 0 rfl) ?_
              refine lv_if_ne (tgt := 156) hx hb dX1_register_151 (by decide) (fun c => absurd c (by decide)) (fun _ => ?_)
              refine lv_iconst (v := -1) hx hb dX1_register_154 (by decide) ?_
              exact W.iret (v := (-1 : Int32)) hx hb hr (fun t ht hW => ⟨⟨(-1 : Int32), (), rfl, by rw [fX1_register, if_neg c_2, if_pos c_3, if_neg c_21, if_neg c_31, if_pos c_33, if_pos c_34], trivial⟩, hS.F ht⟩) hS.2.2 dX1_register_155
            · -- not taken
              refine lv_iload_n hx hb dX1_register_71 rfl (lv_at hl 0 rfl) ?_
              refine lv_bipush (v := 20) hx hb dX1_register_72 (by decide) ?_
              refine lv_icmp_ge (tgt := 81) hx hb dX1_register_74 (by decide) (fun c_35 => ?_) (fun c_35 => ?_)
              · -- taken
                refine lv_iconst (v := 0) hx hb dX1_register_81 (by decide) ?_
                refine lv_goto (tgt := 147) hx hb dX1_register_82 (by decide) ?_
                refine lv_istore (lv' := [(4, .int (0 : Int32)), (3, .int (fX1_kind p0)), (0, .ref h0), (1, .int p0), (2, .int p1)]) hx hb dX1_register_147 hl (by decide) rfl (fun ls hl => ?_)
                refine lv_iload hx hb dX1_register_149 (lv_at hl 0 rfl) ?_
                refine lv_if_ne (tgt := 156) hx hb dX1_register_151 (by decide) (fun c => absurd c (by decide)) (fun _ => ?_)
                refine lv_iconst (v := -1) hx hb dX1_register_154 (by decide) ?_
                exact W.iret (v := (-1 : Int32)) hx hb hr (fun t ht hW => ⟨⟨(-1 : Int32), (), rfl, by rw [fX1_register, if_neg c_2, if_pos c_3, if_neg c_21, if_neg c_31, if_pos c_33, if_neg c_34, if_pos c_35], trivial⟩, hS.F ht⟩) hS.2.2 dX1_register_155
              · -- not taken
                refine lv_iconst (v := 1) hx hb dX1_register_77 (by decide) ?_
                refine lv_goto (tgt := 147) hx hb dX1_register_78 (by decide) ?_
                refine lv_istore (lv' := [(4, .int (1 : Int32)), (3, .int (fX1_kind p0)), (0, .ref h0), (1, .int p0), (2, .int p1)]) hx hb dX1_register_147 hl (by decide) rfl (fun ls hl => ?_)
                refine lv_iload hx hb dX1_register_149 (lv_at hl 0 rfl) ?_
                refine lv_if_ne (tgt := 156) hx hb dX1_register_151 (by decide) (fun _ => ?_) (fun c => absurd c (by decide))
                refine lv_iload_n hx hb dX1_register_156 rfl (lv_at hl 4 rfl) ?_
                refine lv_if_ne (tgt := 164) hx hb dX1_register_157 (by decide) (fun _ => ?_) (fun c => absurd c c_2)
                refine lv_iload_n hx hb dX1_register_164 rfl (lv_at hl 4 rfl) ?_
                refine lv_iconst (v := 1) hx hb dX1_register_165 (by decide) ?_
                refine lv_icmp_ne (tgt := 173) hx hb dX1_register_166 (by decide) (fun c => absurd c_3 c) (fun _ => ?_)
                refine lv_iconst (v := 5) hx hb dX1_register_169 (by decide) ?_
                refine lv_goto (tgt := 185) hx hb dX1_register_170 (by decide) ?_
                refine lv_istore (lv' := [(5, .int (5 : Int32)), (4, .int (1 : Int32)), (3, .int (fX1_kind p0)), (0, .ref h0), (1, .int p0), (2, .int p1)]) hx hb dX1_register_185 hl (by decide) rfl (fun ls hl => ?_)
                refine lv_iload_n hx hb dX1_register_187 rfl (lv_at hl 4 rfl) ?_
                refine lv_iload hx hb dX1_register_188 (lv_at hl 0 rfl) ?_
                refine lv_iload hx hb dX1_register_190 (lv_at hl 0 rfl) ?_
                refine lv_iconst (v := 4) hx hb dX1_register_192 (by decide) ?_
                refine lv_iadd hx hb dX1_register_193 ?_
                refine va_calli (va_runS (As := [.int p0, .int (5 : Int32), .int ((5 : Int32) + (4 : Int32))]) (rest := []) ⟨hx, hb, hml, hown, hts⟩ (mX1_bits l H_1.size p0 (5 : Int32) ((5 : Int32) + (4 : Int32))) (va_cwS 3 hts gX1_register_X1_bits rfl rfl rfl (by decide +kernel) ⟨Nat.le_of_ble_eq_true rfl, Nat.le_of_ble_eq_true rfl⟩) ⟨fb_pure, fun U hU hW => ⟨rfl, congrArg Array.size hU⟩⟩ rfl rfl hl.1 rfl (lv_room (Nat.le_of_ble_eq_true rfl)) dX1_register_194 ⟨Nat.zero_le _, Nat.zero_le _⟩) hS (fun q _ h => Nat.le_trans hS.1 h) (fun q h => Nat.le_trans hS.1 h) (fun r_36 _ _ H_36 _ _ _ hw _ _ _ hS => ?_)
                subst hw
                exact W.iret (v := (fX1_bits p0 (5 : Int32) ((5 : Int32) + (4 : Int32)))) hx hb hr (fun t ht hW => ⟨⟨(fX1_bits p0 (5 : Int32) ((5 : Int32) + (4 : Int32))), (), rfl, by rw [fX1_register, if_neg c_2, if_pos c_3, if_neg c_21, if_neg c_31, if_pos c_33, if_neg c_34, if_neg c_35], trivial⟩, hS.F ht⟩) hS.2.2 dX1_register_197
          · -- not taken
            refine lv_iload_n hx hb dX1_register_59 rfl (lv_at hl 0 rfl) ?_
            refine lv_bipush (v := 12) hx hb dX1_register_60 (by decide) ?_
            refine lv_icmp_lt (tgt := 77) hx hb dX1_register_62 (by decide) (fun c_37 => ?_) (fun c_37 => ?_)
            · -- taken
              refine lv_iconst (v := 1) hx hb dX1_register_77 (by decide) ?_
              refine lv_goto (tgt := 147) hx hb dX1_register_78 (by decide) ?_
              refine lv_istore (lv' := [(4, .int (1 : Int32)), (3, .int (fX1_kind p0)), (0, .ref h0), (1, .int p0), (2, .int p1)]) hx hb dX1_register_147 hl (by decide) rfl (fun ls hl => ?_)
              refine lv_iload hx hb dX1_register_149 (lv_at hl 0 rfl) ?_
              refine lv_if_ne (tgt := 156) hx hb dX1_register_151 (by decide) (fun _ => ?_) (fun c => absurd c (by decide))
              refine lv_iload_n hx hb dX1_register_156 rfl (lv_at hl 4 rfl) ?_
              refine lv_if_ne (tgt := 164) hx hb dX1_register_157 (by decide) (fun _ => ?_) (fun c => absurd c c_2)
              refine lv_iload_n hx hb dX1_register_164 rfl (lv_at hl 4 rfl) ?_
              refine lv_iconst (v := 1) hx hb dX1_register_165 (by decide) ?_
              refine lv_icmp_ne (tgt := 173) hx hb dX1_register_166 (by decide) (fun c => absurd c_3 c) (fun _ => ?_)
              refine lv_iconst (v := 5) hx hb dX1_register_169 (by decide) ?_
              refine lv_goto (tgt := 185) hx hb dX1_register_170 (by decide) ?_
              refine lv_istore (lv' := [(5, .int (5 : Int32)), (4, .int (1 : Int32)), (3, .int (fX1_kind p0)), (0, .ref h0), (1, .int p0), (2, .int p1)]) hx hb dX1_register_185 hl (by decide) rfl (fun ls hl => ?_)
              refine lv_iload_n hx hb dX1_register_187 rfl (lv_at hl 4 rfl) ?_
              refine lv_iload hx hb dX1_register_188 (lv_at hl 0 rfl) ?_
              refine lv_iload hx hb dX1_register_190 (lv_at hl 0 rfl) ?_
              refine lv_iconst (v := 4) hx hb dX1_register_192 (by decide) ?_
              refine lv_iadd hx hb dX1_register_193 ?_
              refine va_calli (va_runS (As := [.int p0, .int (5 : Int32), .int ((5 : Int32) + (4 : Int32))]) (rest := []) ⟨hx, hb, hml, hown, hts⟩ (mX1_bits l H_1.size p0 (5 : Int32) ((5 : Int32) + (4 : Int32))) (va_cwS 3 hts gX1_register_X1_bits rfl rfl rfl (by decide +kernel) ⟨Nat.le_of_ble_eq_true rfl, Nat.le_of_ble_eq_true rfl⟩) ⟨fb_pure, fun U hU hW => ⟨rfl, congrArg Array.size hU⟩⟩ rfl rfl hl.1 rfl (lv_room (Nat.le_of_ble_eq_true rfl)) dX1_register_194 ⟨Nat.zero_le _, Nat.zero_le _⟩) hS (fun q _ h => Nat.le_trans hS.1 h) (fun q h => Nat.le_trans hS.1 h) (fun r_38 _ _ H_38 _ _ _ hw _ _ _ hS => ?_)
              subst hw
              exact W.iret (v := (fX1_bits p0 (5 : Int32) ((5 : Int32) + (4 : Int32)))) hx hb hr (fun t ht hW => ⟨⟨(fX1_bits p0 (5 : Int32) ((5 : Int32) + (4 : Int32))), (), rfl, by rw [fX1_register, if_neg c_2, if_pos c_3, if_neg c_21, if_neg c_31, if_neg c_33, if_pos c_37], trivial⟩, hS.F ht⟩) hS.2.2 dX1_register_197
            · -- not taken
              refine lv_iload_n hx hb dX1_register_65 rfl (lv_at hl 0 rfl) ?_
              refine lv_bipush (v := 16) hx hb dX1_register_66 (by decide) ?_
              refine lv_icmp_le (tgt := 81) hx hb dX1_register_68 (by decide) (fun c_39 => ?_) (fun c_39 => ?_)
              · -- taken
                refine lv_iconst (v := 0) hx hb dX1_register_81 (by decide) ?_
                refine lv_goto (tgt := 147) hx hb dX1_register_82 (by decide) ?_
                refine lv_istore (lv' := [(4, .int (0 : Int32)), (3, .int (fX1_kind p0)), (0, .ref h0), (1, .int p0), (2, .int p1)]) hx hb dX1_register_147 hl (by decide) rfl (fun ls hl => ?_)
                refine lv_iload hx hb dX1_register_149 (lv_at hl 0 rfl) ?_
                refine lv_if_ne (tgt := 156) hx hb dX1_register_151 (by decide) (fun c => absurd c (by decide)) (fun _ => ?_)
                refine lv_iconst (v := -1) hx hb dX1_register_154 (by decide) ?_
                exact W.iret (v := (-1 : Int32)) hx hb hr (fun t ht hW => ⟨⟨(-1 : Int32), (), rfl, by rw [fX1_register, if_neg c_2, if_pos c_3, if_neg c_21, if_neg c_31, if_neg c_33, if_neg c_37, if_pos c_39], trivial⟩, hS.F ht⟩) hS.2.2 dX1_register_155
              · -- not taken
                refine lv_iload_n hx hb dX1_register_71 rfl (lv_at hl 0 rfl) ?_
                refine lv_bipush (v := 20) hx hb dX1_register_72 (by decide) ?_
                refine lv_icmp_ge (tgt := 81) hx hb dX1_register_74 (by decide) (fun c_40 => ?_) (fun c_40 => ?_)
                · -- taken
                  refine lv_iconst (v := 0) hx hb dX1_register_81 (by decide) ?_
                  refine lv_goto (tgt := 147) hx hb dX1_register_82 (by decide) ?_
                  refine lv_istore (lv' := [(4, .int (0 : Int32)), (3, .int (fX1_kind p0)), (0, .ref h0), (1, .int p0), (2, .int p1)]) hx hb dX1_register_147 hl (by decide) rfl (fun ls hl => ?_)
                  refine lv_iload hx hb dX1_register_149 (lv_at hl 0 rfl) ?_
                  refine lv_if_ne (tgt := 156) hx hb dX1_register_151 (by decide) (fun c => absurd c (by decide)) (fun _ => ?_)
                  refine lv_iconst (v := -1) hx hb dX1_register_154 (by decide) ?_
                  exact W.iret (v := (-1 : Int32)) hx hb hr (fun t ht hW => ⟨⟨(-1 : Int32), (), rfl, by rw [fX1_register, if_neg c_2, if_pos c_3, if_neg c_21, if_neg c_31, if_neg c_33, if_neg c_37, if_neg c_39, if_pos c_40], trivial⟩, hS.F ht⟩) hS.2.2 dX1_register_155
                · -- not taken
                  refine lv_iconst (v := 1) hx hb dX1_register_77 (by decide) ?_
                  refine lv_goto (tgt := 147) hx hb dX1_register_78 (by decide) ?_
                  refine lv_istore (lv' := [(4, .int (1 : Int32)), (3, .int (fX1_kind p0)), (0, .ref h0), (1, .int p0), (2, .int p1)]) hx hb dX1_register_147 hl (by decide) rfl (fun ls hl => ?_)
                  refine lv_iload hx hb dX1_register_149 (lv_at hl 0 rfl) ?_
                  refine lv_if_ne (tgt := 156) hx hb dX1_register_151 (by decide) (fun _ => ?_) (fun c => absurd c (by decide))
                  refine lv_iload_n hx hb dX1_register_156 rfl (lv_at hl 4 rfl) ?_
                  refine lv_if_ne (tgt := 164) hx hb dX1_register_157 (by decide) (fun _ => ?_) (fun c => absurd c c_2)
                  refine lv_iload_n hx hb dX1_register_164 rfl (lv_at hl 4 rfl) ?_
                  refine lv_iconst (v := 1) hx hb dX1_register_165 (by decide) ?_
                  refine lv_icmp_ne (tgt := 173) hx hb dX1_register_166 (by decide) (fun c => absurd c_3 c) (fun _ => ?_)
                  refine lv_iconst (v := 5) hx hb dX1_register_169 (by decide) ?_
                  refine lv_goto (tgt := 185) hx hb dX1_register_170 (by decide) ?_
                  refine lv_istore (lv' := [(5, .int (5 : Int32)), (4, .int (1 : Int32)), (3, .int (fX1_kind p0)), (0, .ref h0), (1, .int p0), (2, .int p1)]) hx hb dX1_register_185 hl (by decide) rfl (fun ls hl => ?_)
                  refine lv_iload_n hx hb dX1_register_187 rfl (lv_at hl 4 rfl) ?_
                  refine lv_iload hx hb dX1_register_188 (lv_at hl 0 rfl) ?_
                  refine lv_iload hx hb dX1_register_190 (lv_at hl 0 rfl) ?_
                  refine lv_iconst (v := 4) hx hb dX1_register_192 (by decide) ?_
                  refine lv_iadd hx hb dX1_register_193 ?_
                  refine va_calli (va_runS (As := [.int p0, .int (5 : Int32), .int ((5 : Int32) + (4 : Int32))]) (rest := []) ⟨hx, hb, hml, hown, hts⟩ (mX1_bits l H_1.size p0 (5 : Int32) ((5 : Int32) + (4 : Int32))) (va_cwS 3 hts gX1_register_X1_bits rfl rfl rfl (by decide +kernel) ⟨Nat.le_of_ble_eq_true rfl, Nat.le_of_ble_eq_true rfl⟩) ⟨fb_pure, fun U hU hW => ⟨rfl, congrArg Array.size hU⟩⟩ rfl rfl hl.1 rfl (lv_room (Nat.le_of_ble_eq_true rfl)) dX1_register_194 ⟨Nat.zero_le _, Nat.zero_le _⟩) hS (fun q _ h => Nat.le_trans hS.1 h) (fun q h => Nat.le_trans hS.1 h) (fun r_41 _ _ H_41 _ _ _ hw _ _ _ hS => ?_)
                  subst hw
                  exact W.iret (v := (fX1_bits p0 (5 : Int32) ((5 : Int32) + (4 : Int32)))) hx hb hr (fun t ht hW => ⟨⟨(fX1_bits p0 (5 : Int32) ((5 : Int32) + (4 : Int32))), (), rfl, by rw [fX1_register, if_neg c_2, if_pos c_3, if_neg c_21, if_neg c_31, if_neg c_33, if_neg c_37, if_neg c_39, if_neg c_40], trivial⟩, hS.F ht⟩) hS.2.2 dX1_register_197
  · -- not taken
    refine lv_iload_n hx hb dX1_register_10 rfl (lv_at hl 0 rfl) ?_
    refine lv_if_le (tgt := 20) hx hb dX1_register_11 (by decide) (fun c_42 => ?_) (fun c_42 => ?_)
    · -- taken
      refine lv_iload_n hx hb dX1_register_20 rfl (lv_at hl 0 rfl) ?_
      refine lv_bipush (v := 15) hx hb dX1_register_21 (by decide) ?_
      refine lv_icmp_eq (tgt := 32) hx hb dX1_register_23 (by decide) (fun c_43 => ?_) (fun c_43 => ?_)
      · -- taken
        refine lv_iconst (v := 1) hx hb dX1_register_32 (by decide) ?_
        refine lv_goto (tgt := 147) hx hb dX1_register_33 (by decide) ?_
        refine lv_istore (lv' := [(4, .int (1 : Int32)), (3, .int (fX1_kind p0)), (0, .ref h0), (1, .int p0), (2, .int p1)]) hx hb dX1_register_147 hl (by decide) rfl (fun ls hl => ?_)
        refine lv_iload hx hb dX1_register_149 (lv_at hl 0 rfl) ?_
        refine lv_if_ne (tgt := 156) hx hb dX1_register_151 (by decide) (fun _ => ?_) (fun c => absurd c (by decide))
        refine lv_iload_n hx hb dX1_register_156 rfl (lv_at hl 4 rfl) ?_
        refine lv_if_ne (tgt := 164) hx hb dX1_register_157 (by decide) (fun c => absurd c_2 c) (fun _ => ?_)
        refine lv_iconst (v := 0) hx hb dX1_register_160 (by decide) ?_
        refine lv_goto (tgt := 185) hx hb dX1_register_161 (by decide) ?_
        refine lv_istore (lv' := [(5, .int (0 : Int32)), (4, .int (1 : Int32)), (3, .int (fX1_kind p0)), (0, .ref h0), (1, .int p0), (2, .int p1)]) hx hb dX1_register_185 hl (by decide) rfl (fun ls hl => ?_)
        refine lv_iload_n hx hb dX1_register_187 rfl (lv_at hl 4 rfl) ?_
        refine lv_iload hx hb dX1_register_188 (lv_at hl 0 rfl) ?_
        refine lv_iload hx hb dX1_register_190 (lv_at hl 0 rfl) ?_
        refine lv_iconst (v := 4) hx hb dX1_register_192 (by decide) ?_
        refine lv_iadd hx hb dX1_register_193 ?_
        refine va_calli (va_runS (As := [.int p0, .int (0 : Int32), .int ((0 : Int32) + (4 : Int32))]) (rest := []) ⟨hx, hb, hml, hown, hts⟩ (mX1_bits l H_1.size p0 (0 : Int32) ((0 : Int32) + (4 : Int32))) (va_cwS 3 hts gX1_register_X1_bits rfl rfl rfl (by decide +kernel) ⟨Nat.le_of_ble_eq_true rfl, Nat.le_of_ble_eq_true rfl⟩) ⟨fb_pure, fun U hU hW => ⟨rfl, congrArg Array.size hU⟩⟩ rfl rfl hl.1 rfl (lv_room (Nat.le_of_ble_eq_true rfl)) dX1_register_194 ⟨Nat.zero_le _, Nat.zero_le _⟩) hS (fun q _ h => Nat.le_trans hS.1 h) (fun q h => Nat.le_trans hS.1 h) (fun r_44 _ _ H_44 _ _ _ hw _ _ _ hS => ?_)
        subst hw
        exact W.iret (v := (fX1_bits p0 (0 : Int32) ((0 : Int32) + (4 : Int32)))) hx hb hr (fun t ht hW => ⟨⟨(fX1_bits p0 (0 : Int32) ((0 : Int32) + (4 : Int32))), (), rfl, by rw [fX1_register, if_pos c_2, if_pos c_42, if_pos c_43], trivial⟩, hS.F ht⟩) hS.2.2 dX1_register_197
      · -- not taken
        refine lv_iload_n hx hb dX1_register_26 rfl (lv_at hl 0 rfl) ?_
        refine lv_bipush (v := 16) hx hb dX1_register_27 (by decide) ?_
        refine lv_icmp_ne (tgt := 36) hx hb dX1_register_29 (by decide) (fun c_45 => ?_) (fun c_45 => ?_)
        · -- taken
          refine lv_iconst (v := 0) hx hb dX1_register_36 (by decide) ?_
          refine lv_goto (tgt := 147) hx hb dX1_register_37 (by decide) ?_
          refine lv_istore (lv' := [(4, .int (0 : Int32)), (3, .int (fX1_kind p0)), (0, .ref h0), (1, .int p0), (2, .int p1)]) hx hb dX1_register_147 hl (by decide) rfl (fun ls hl => ?_)
          refine lv_iload hx hb dX1_register_149 (lv_at hl 0 rfl) ?_
          refine lv_if_ne (tgt := 156) hx hb dX1_register_151 (by decide) (fun c => absurd c (by decide)) (fun _ => ?_)
          refine lv_iconst (v := -1) hx hb dX1_register_154 (by decide) ?_
          exact W.iret (v := (-1 : Int32)) hx hb hr (fun t ht hW => ⟨⟨(-1 : Int32), (), rfl, by rw [fX1_register, if_pos c_2, if_pos c_42, if_neg c_43, if_neg c_45], trivial⟩, hS.F ht⟩) hS.2.2 dX1_register_155
        · -- not taken
          refine lv_iconst (v := 1) hx hb dX1_register_32 (by decide) ?_
          refine lv_goto (tgt := 147) hx hb dX1_register_33 (by decide) ?_
          refine lv_istore (lv' := [(4, .int (1 : Int32)), (3, .int (fX1_kind p0)), (0, .ref h0), (1, .int p0), (2, .int p1)]) hx hb dX1_register_147 hl (by decide) rfl (fun ls hl => ?_)
          refine lv_iload hx hb dX1_register_149 (lv_at hl 0 rfl) ?_
          refine lv_if_ne (tgt := 156) hx hb dX1_register_151 (by decide) (fun _ => ?_) (fun c => absurd c (by decide))
          refine lv_iload_n hx hb dX1_register_156 rfl (lv_at hl 4 rfl) ?_
          refine lv_if_ne (tgt := 164) hx hb dX1_register_157 (by decide) (fun c => absurd c_2 c) (fun _ => ?_)
          refine lv_iconst (v := 0) hx hb dX1_register_160 (by decide) ?_
          refine lv_goto (tgt := 185) hx hb dX1_register_161 (by decide) ?_
          refine lv_istore (lv' := [(5, .int (0 : Int32)), (4, .int (1 : Int32)), (3, .int (fX1_kind p0)), (0, .ref h0), (1, .int p0), (2, .int p1)]) hx hb dX1_register_185 hl (by decide) rfl (fun ls hl => ?_)
          refine lv_iload_n hx hb dX1_register_187 rfl (lv_at hl 4 rfl) ?_
          refine lv_iload hx hb dX1_register_188 (lv_at hl 0 rfl) ?_
          refine lv_iload hx hb dX1_register_190 (lv_at hl 0 rfl) ?_
          refine lv_iconst (v := 4) hx hb dX1_register_192 (by decide) ?_
          refine lv_iadd hx hb dX1_register_193 ?_
          refine va_calli (va_runS (As := [.int p0, .int (0 : Int32), .int ((0 : Int32) + (4 : Int32))]) (rest := []) ⟨hx, hb, hml, hown, hts⟩ (mX1_bits l H_1.size p0 (0 : Int32) ((0 : Int32) + (4 : Int32))) (va_cwS 3 hts gX1_register_X1_bits rfl rfl rfl (by decide +kernel) ⟨Nat.le_of_ble_eq_true rfl, Nat.le_of_ble_eq_true rfl⟩) ⟨fb_pure, fun U hU hW => ⟨rfl, congrArg Array.size hU⟩⟩ rfl rfl hl.1 rfl (lv_room (Nat.le_of_ble_eq_true rfl)) dX1_register_194 ⟨Nat.zero_le _, Nat.zero_le _⟩) hS (fun q _ h => Nat.le_trans hS.1 h) (fun q h => Nat.le_trans hS.1 h) (fun r_46 _ _ H_46 _ _ _ hw _ _ _ hS => ?_)
          subst hw
          exact W.iret (v := (fX1_bits p0 (0 : Int32) ((0 : Int32) + (4 : Int32)))) hx hb hr (fun t ht hW => ⟨⟨(fX1_bits p0 (0 : Int32) ((0 : Int32) + (4 : Int32))), (), rfl, by rw [fX1_register, if_pos c_2, if_pos c_42, if_neg c_43, if_pos c_45], trivial⟩, hS.F ht⟩) hS.2.2 dX1_register_197
    · -- not taken
      refine lv_iload_n hx hb dX1_register_14 rfl (lv_at hl 0 rfl) ?_
      refine lv_bipush (v := 12) hx hb dX1_register_15 (by decide) ?_
      refine lv_icmp_lt (tgt := 32) hx hb dX1_register_17 (by decide) (fun c_47 => ?_) (fun c_47 => ?_)
      · -- taken
        refine lv_iconst (v := 1) hx hb dX1_register_32 (by decide) ?_
        refine lv_goto (tgt := 147) hx hb dX1_register_33 (by decide) ?_
        refine lv_istore (lv' := [(4, .int (1 : Int32)), (3, .int (fX1_kind p0)), (0, .ref h0), (1, .int p0), (2, .int p1)]) hx hb dX1_register_147 hl (by decide) rfl (fun ls hl => ?_)
        refine lv_iload hx hb dX1_register_149 (lv_at hl 0 rfl) ?_
        refine lv_if_ne (tgt := 156) hx hb dX1_register_151 (by decide) (fun _ => ?_) (fun c => absurd c (by decide))
        refine lv_iload_n hx hb dX1_register_156 rfl (lv_at hl 4 rfl) ?_
        refine lv_if_ne (tgt := 164) hx hb dX1_register_157 (by decide) (fun c => absurd c_2 c) (fun _ => ?_)
        refine lv_iconst (v := 0) hx hb dX1_register_160 (by decide) ?_
        refine lv_goto (tgt := 185) hx hb dX1_register_161 (by decide) ?_
        refine lv_istore (lv' := [(5, .int (0 : Int32)), (4, .int (1 : Int32)), (3, .int (fX1_kind p0)), (0, .ref h0), (1, .int p0), (2, .int p1)]) hx hb dX1_register_185 hl (by decide) rfl (fun ls hl => ?_)
        refine lv_iload_n hx hb dX1_register_187 rfl (lv_at hl 4 rfl) ?_
        refine lv_iload hx hb dX1_register_188 (lv_at hl 0 rfl) ?_
        refine lv_iload hx hb dX1_register_190 (lv_at hl 0 rfl) ?_
        refine lv_iconst (v := 4) hx hb dX1_register_192 (by decide) ?_
        refine lv_iadd hx hb dX1_register_193 ?_
        refine va_calli (va_runS (As := [.int p0, .int (0 : Int32), .int ((0 : Int32) + (4 : Int32))]) (rest := []) ⟨hx, hb, hml, hown, hts⟩ (mX1_bits l H_1.size p0 (0 : Int32) ((0 : Int32) + (4 : Int32))) (va_cwS 3 hts gX1_register_X1_bits rfl rfl rfl (by decide +kernel) ⟨Nat.le_of_ble_eq_true rfl, Nat.le_of_ble_eq_true rfl⟩) ⟨fb_pure, fun U hU hW => ⟨rfl, congrArg Array.size hU⟩⟩ rfl rfl hl.1 rfl (lv_room (Nat.le_of_ble_eq_true rfl)) dX1_register_194 ⟨Nat.zero_le _, Nat.zero_le _⟩) hS (fun q _ h => Nat.le_trans hS.1 h) (fun q h => Nat.le_trans hS.1 h) (fun r_48 _ _ H_48 _ _ _ hw _ _ _ hS => ?_)
        subst hw
        exact W.iret (v := (fX1_bits p0 (0 : Int32) ((0 : Int32) + (4 : Int32)))) hx hb hr (fun t ht hW => ⟨⟨(fX1_bits p0 (0 : Int32) ((0 : Int32) + (4 : Int32))), (), rfl, by rw [fX1_register, if_pos c_2, if_neg c_42, if_pos c_47], trivial⟩, hS.F ht⟩) hS.2.2 dX1_register_197
      · -- not taken
        refine lv_iload_n hx hb dX1_register_20 rfl (lv_at hl 0 rfl) ?_
        refine lv_bipush (v := 15) hx hb dX1_register_21 (by decide) ?_
        refine lv_icmp_eq (tgt := 32) hx hb dX1_register_23 (by decide) (fun c_49 => ?_) (fun c_49 => ?_)
        · -- taken
          refine lv_iconst (v := 1) hx hb dX1_register_32 (by decide) ?_
          refine lv_goto (tgt := 147) hx hb dX1_register_33 (by decide) ?_
          refine lv_istore (lv' := [(4, .int (1 : Int32)), (3, .int (fX1_kind p0)), (0, .ref h0), (1, .int p0), (2, .int p1)]) hx hb dX1_register_147 hl (by decide) rfl (fun ls hl => ?_)
          refine lv_iload hx hb dX1_register_149 (lv_at hl 0 rfl) ?_
          refine lv_if_ne (tgt := 156) hx hb dX1_register_151 (by decide) (fun _ => ?_) (fun c => absurd c (by decide))
          refine lv_iload_n hx hb dX1_register_156 rfl (lv_at hl 4 rfl) ?_
          refine lv_if_ne (tgt := 164) hx hb dX1_register_157 (by decide) (fun c => absurd c_2 c) (fun _ => ?_)
          refine lv_iconst (v := 0) hx hb dX1_register_160 (by decide) ?_
          refine lv_goto (tgt := 185) hx hb dX1_register_161 (by decide) ?_
          refine lv_istore (lv' := [(5, .int (0 : Int32)), (4, .int (1 : Int32)), (3, .int (fX1_kind p0)), (0, .ref h0), (1, .int p0), (2, .int p1)]) hx hb dX1_register_185 hl (by decide) rfl (fun ls hl => ?_)
          refine lv_iload_n hx hb dX1_register_187 rfl (lv_at hl 4 rfl) ?_
          refine lv_iload hx hb dX1_register_188 (lv_at hl 0 rfl) ?_
          refine lv_iload hx hb dX1_register_190 (lv_at hl 0 rfl) ?_
          refine lv_iconst (v := 4) hx hb dX1_register_192 (by decide) ?_
          refine lv_iadd hx hb dX1_register_193 ?_
          refine va_calli (va_runS (As := [.int p0, .int (0 : Int32), .int ((0 : Int32) + (4 : Int32))]) (rest := []) ⟨hx, hb, hml, hown, hts⟩ (mX1_bits l H_1.size p0 (0 : Int32) ((0 : Int32) + (4 : Int32))) (va_cwS 3 hts gX1_register_X1_bits rfl rfl rfl (by decide +kernel) ⟨Nat.le_of_ble_eq_true rfl, Nat.le_of_ble_eq_true rfl⟩) ⟨fb_pure, fun U hU hW => ⟨rfl, congrArg Array.size hU⟩⟩ rfl rfl hl.1 rfl (lv_room (Nat.le_of_ble_eq_true rfl)) dX1_register_194 ⟨Nat.zero_le _, Nat.zero_le _⟩) hS (fun q _ h => Nat.le_trans hS.1 h) (fun q h => Nat.le_trans hS.1 h) (fun r_50 _ _ H_50 _ _ _ hw _ _ _ hS => ?_)
          subst hw
          exact W.iret (v := (fX1_bits p0 (0 : Int32) ((0 : Int32) + (4 : Int32)))) hx hb hr (fun t ht hW => ⟨⟨(fX1_bits p0 (0 : Int32) ((0 : Int32) + (4 : Int32))), (), rfl, by rw [fX1_register, if_pos c_2, if_neg c_42, if_neg c_47, if_pos c_49], trivial⟩, hS.F ht⟩) hS.2.2 dX1_register_197
        · -- not taken
          refine lv_iload_n hx hb dX1_register_26 rfl (lv_at hl 0 rfl) ?_
          refine lv_bipush (v := 16) hx hb dX1_register_27 (by decide) ?_
          refine lv_icmp_ne (tgt := 36) hx hb dX1_register_29 (by decide) (fun c_51 => ?_) (fun c_51 => ?_)
          · -- taken
            refine lv_iconst (v := 0) hx hb dX1_register_36 (by decide) ?_
            refine lv_goto (tgt := 147) hx hb dX1_register_37 (by decide) ?_
            refine lv_istore (lv' := [(4, .int (0 : Int32)), (3, .int (fX1_kind p0)), (0, .ref h0), (1, .int p0), (2, .int p1)]) hx hb dX1_register_147 hl (by decide) rfl (fun ls hl => ?_)
            refine lv_iload hx hb dX1_register_149 (lv_at hl 0 rfl) ?_
            refine lv_if_ne (tgt := 156) hx hb dX1_register_151 (by decide) (fun c => absurd c (by decide)) (fun _ => ?_)
            refine lv_iconst (v := -1) hx hb dX1_register_154 (by decide) ?_
            exact W.iret (v := (-1 : Int32)) hx hb hr (fun t ht hW => ⟨⟨(-1 : Int32), (), rfl, by rw [fX1_register, if_pos c_2, if_neg c_42, if_neg c_47, if_neg c_49, if_neg c_51], trivial⟩, hS.F ht⟩) hS.2.2 dX1_register_155
          · -- not taken
            refine lv_iconst (v := 1) hx hb dX1_register_32 (by decide) ?_
            refine lv_goto (tgt := 147) hx hb dX1_register_33 (by decide) ?_
            refine lv_istore (lv' := [(4, .int (1 : Int32)), (3, .int (fX1_kind p0)), (0, .ref h0), (1, .int p0), (2, .int p1)]) hx hb dX1_register_147 hl (by decide) rfl (fun ls hl => ?_)
            refine lv_iload hx hb dX1_register_149 (lv_at hl 0 rfl) ?_
            refine lv_if_ne (tgt := 156) hx hb dX1_register_151 (by decide) (fun _ => ?_) (fun c => absurd c (by decide))
            refine lv_iload_n hx hb dX1_register_156 rfl (lv_at hl 4 rfl) ?_
            refine lv_if_ne (tgt := 164) hx hb dX1_register_157 (by decide) (fun c => absurd c_2 c) (fun _ => ?_)
            refine lv_iconst (v := 0) hx hb dX1_register_160 (by decide) ?_
            refine lv_goto (tgt := 185) hx hb dX1_register_161 (by decide) ?_
            refine lv_istore (lv' := [(5, .int (0 : Int32)), (4, .int (1 : Int32)), (3, .int (fX1_kind p0)), (0, .ref h0), (1, .int p0), (2, .int p1)]) hx hb dX1_register_185 hl (by decide) rfl (fun ls hl => ?_)
            refine lv_iload_n hx hb dX1_register_187 rfl (lv_at hl 4 rfl) ?_
            refine lv_iload hx hb dX1_register_188 (lv_at hl 0 rfl) ?_
            refine lv_iload hx hb dX1_register_190 (lv_at hl 0 rfl) ?_
            refine lv_iconst (v := 4) hx hb dX1_register_192 (by decide) ?_
            refine lv_iadd hx hb dX1_register_193 ?_
            refine va_calli (va_runS (As := [.int p0, .int (0 : Int32), .int ((0 : Int32) + (4 : Int32))]) (rest := []) ⟨hx, hb, hml, hown, hts⟩ (mX1_bits l H_1.size p0 (0 : Int32) ((0 : Int32) + (4 : Int32))) (va_cwS 3 hts gX1_register_X1_bits rfl rfl rfl (by decide +kernel) ⟨Nat.le_of_ble_eq_true rfl, Nat.le_of_ble_eq_true rfl⟩) ⟨fb_pure, fun U hU hW => ⟨rfl, congrArg Array.size hU⟩⟩ rfl rfl hl.1 rfl (lv_room (Nat.le_of_ble_eq_true rfl)) dX1_register_194 ⟨Nat.zero_le _, Nat.zero_le _⟩) hS (fun q _ h => Nat.le_trans hS.1 h) (fun q h => Nat.le_trans hS.1 h) (fun r_52 _ _ H_52 _ _ _ hw _ _ _ hS => ?_)
            subst hw
            exact W.iret (v := (fX1_bits p0 (0 : Int32) ((0 : Int32) + (4 : Int32)))) hx hb hr (fun t ht hW => ⟨⟨(fX1_bits p0 (0 : Int32) ((0 : Int32) + (4 : Int32))), (), rfl, by rw [fX1_register, if_pos c_2, if_neg c_42, if_neg c_47, if_neg c_49, if_pos c_51], trivial⟩, hS.F ht⟩) hS.2.2 dX1_register_197
end
section
/-! a word by its digits -/
theorem wd_self (x : Int32) : nI x.toBitVec.toNat = x := Int32.toBitVec_inj.mp (BitVec.eq_of_toNat_eq (pk_tn x.toBitVec.isLt))
theorem wd_inj {x y : Int32} (h : x.toBitVec.toNat = y.toBitVec.toNat) : x = y := Int32.toBitVec_inj.mp (BitVec.eq_of_toNat_eq h)
theorem wd_cut {n l k A C D : Nat} (h : n = A + 2 ^ l * (C + 2 ^ k * D)) (hA : A < 2 ^ l) (hC : C < 2 ^ k) : n / 2 ^ l % 2 ^ k = C := by
  subst h
  rw [Nat.add_mul_div_left _ _ (Nat.two_pow_pos l), Nat.div_eq_of_lt hA, Nat.zero_add, Nat.add_mul_mod_self_left, Nat.mod_eq_of_lt hC]
theorem wd_b0 (w p1 p2 : Int32) (l k : Nat) (h1 : ((p1.toUInt32 &&& Int32.toUInt32 31).toBitVec % 32).toNat = l) (h2 : (fX0_lowBits p2).toBitVec.toNat = 2 ^ k - 1) : fX0_bits w p1 p2 = nI (w.toBitVec.toNat / 2 ^ l % 2 ^ k) := by
  unfold fX0_bits
  rw [pk_and _ k h2, pk_ushr _ _ l h1]
theorem wd_b1 (w p1 p2 : Int32) (lo s k : Nat) (h1 : ((((31 : Int32) - p2) &&& 31).toBitVec.smod 32).toNat = s) (h2 : (((((31 : Int32) - p2) + p1).toUInt32 &&& Int32.toUInt32 31).toBitVec % 32).toNat = s + lo) (hs : s + lo + k = 32) : fX1_bits w p1 p2 = nI (w.toBitVec.toNat / 2 ^ lo % 2 ^ k) := by
  refine (wd_self _).symm.trans (congrArg nI ?_)
  unfold fX1_bits
  rw [pk_ushr _ _ (s + lo) h2, pk_shl _ _ s h1]
  have e1 : (2 : Nat) ^ 32 = 2 ^ s * (2 ^ lo * 2 ^ k) := by rw [← Nat.pow_add, ← Nat.pow_add, ← hs, Nat.add_assoc]
  rw [e1, Nat.mul_comm w.toBitVec.toNat, Nat.mul_mod_mul_left, Nat.pow_add, ← Nat.div_div_eq_div_mul, Nat.mul_div_cancel_left _ (Nat.two_pow_pos s), Nat.mod_mul_right_div_self]
theorem wd_e {x : Int32} {a : Nat} (hx : x = nI a) (ha : a < 2 ^ 31) (k : Nat) (hk : k < 2 ^ 31) : (x = nI k) ↔ a = k := by
  subst hx
  exact nI_eq ha hk
theorem wd_ee {x y : Int32} {a b : Nat} (hx : x = nI a) (hy : y = nI b) (ha : a < 2 ^ 31) (hb : b < 2 ^ 31) : (x = y) ↔ a = b := by
  subst hx hy
  exact nI_eq ha hb
theorem wd_lt {x : Int32} {a : Nat} (hx : x = nI a) (ha : a < 2 ^ 31) (k : Nat) (hk : k < 2 ^ 31) : (x < nI k) ↔ a < k := by
  subst hx
  exact nI_ltI ha hk
theorem wd_le {x : Int32} {a : Nat} (hx : x = nI a) (ha : a < 2 ^ 31) (k : Nat) (hk : k < 2 ^ 31) : (x ≤ nI k) ↔ a ≤ k := by
  subst hx
  exact nI_leI ha hk
theorem wd_gt {x : Int32} {a : Nat} (hx : x = nI a) (ha : a < 2 ^ 31) (k : Nat) (hk : k < 2 ^ 31) : (nI k < x) ↔ k < a := by
  subst hx
  exact nI_ltI hk ha
theorem wd_ge {x : Int32} {a : Nat} (hx : x = nI a) (ha : a < 2 ^ 31) (k : Nat) (hk : k < 2 ^ 31) : (nI k ≤ x) ↔ k ≤ a := by
  subst hx
  exact nI_leI hk ha
theorem wd_int (w : Int32) : w.toInt = if 2 * w.toBitVec.toNat < 2 ^ 32 then (w.toBitVec.toNat : Int) else (w.toBitVec.toNat : Int) - 4294967296 := BitVec.toInt_eq_toNat_cond w.toBitVec
theorem wd_neg {w : Int32} {A d : Nat} (hn : w.toBitVec.toNat = A + 2147483648 * d) (hA : A < 2147483648) (hd : d < 2) : (w < 0) ↔ d = 1 := by
  rw [Int32.lt_iff_toInt_lt, show (0 : Int32).toInt = 0 from by decide, wd_int]
  split <;> omega
theorem wd_pos {w : Int32} {A d : Nat} (hn : w.toBitVec.toNat = A + 2147483648 * d) (hA : A < 2147483648) (hd : d < 2) : (0 ≤ w) ↔ d = 0 := by
  rw [Int32.le_iff_toInt_le, show (0 : Int32).toInt = 0 from by decide, wd_int]
  split <;> omega
theorem wd_nmask (n k l : Nat) : n &&& ((2 ^ k - 1) * 2 ^ l) = (n / 2 ^ l % 2 ^ k) * 2 ^ l := by
  apply Nat.eq_of_testBit_eq
  intro i
  rw [Nat.testBit_and, Nat.testBit_mul_two_pow, Nat.testBit_mul_two_pow, Nat.testBit_two_pow_sub_one, Nat.testBit_mod_two_pow, Nat.testBit_div_two_pow]
  by_cases h : l ≤ i
  · rw [Nat.sub_add_cancel h]
    cases n.testBit i <;> cases decide (l ≤ i) <;> cases decide (i - l < k) <;> rfl
  · have h2 : decide (l ≤ i) = false := decide_eq_false h
    rw [h2]
    cases n.testBit i <;> rfl
theorem wd_mk {w M V : Int32} (l k v : Nat) (hM : M.toBitVec.toNat = (2 ^ k - 1) * 2 ^ l) (hV : V.toBitVec.toNat = v * 2 ^ l) : ((w &&& M) = V) ↔ w.toBitVec.toNat / 2 ^ l % 2 ^ k = v := by
  have e : (w &&& M).toBitVec.toNat = (w.toBitVec.toNat / 2 ^ l % 2 ^ k) * 2 ^ l := by
    rw [← wd_nmask, ← hM, Int32.toBitVec_and, BitVec.toNat_and]
  constructor
  · intro h
    rw [h, hV] at e
    exact (Nat.eq_of_mul_eq_mul_right (Nat.two_pow_pos l) e).symm
  · intro h
    exact wd_inj (by rw [e, h, hV])
theorem wd_bv2 (w M1 M2 V1 V2 : BitVec 32) (h1 : V1 &&& M1 = V1) (h2 : V2 &&& M2 = V2) (h3 : M1 &&& M2 = 0#32) : (w &&& (M1 ||| M2) = V1 ||| V2) ↔ (w &&& M1 = V1 ∧ w &&& M2 = V2) := by
  have key : ∀ i, i < 32 → (V1.getLsbD i && M1.getLsbD i) = V1.getLsbD i ∧ (V2.getLsbD i && M2.getLsbD i) = V2.getLsbD i ∧ (M1.getLsbD i && M2.getLsbD i) = false := by
    intro i hi
    refine ⟨?_, ?_, ?_⟩
    · rw [← BitVec.getLsbD_and, h1]
    · rw [← BitVec.getLsbD_and, h2]
    · rw [← BitVec.getLsbD_and, h3, BitVec.getLsbD_zero]
  constructor
  · intro h
    constructor
    · apply BitVec.eq_of_getLsbD_eq
      intro i hi
      have a := congrArg (fun x => x.getLsbD i) h
      obtain ⟨k1, k2, k3⟩ := key i hi
      simp only [BitVec.getLsbD_and, BitVec.getLsbD_or] at a ⊢
      revert a k1 k2 k3
      cases w.getLsbD i <;> cases M1.getLsbD i <;> cases M2.getLsbD i <;> cases V1.getLsbD i <;> cases V2.getLsbD i <;> simp
    · apply BitVec.eq_of_getLsbD_eq
      intro i hi
      have a := congrArg (fun x => x.getLsbD i) h
      obtain ⟨k1, k2, k3⟩ := key i hi
      simp only [BitVec.getLsbD_and, BitVec.getLsbD_or] at a ⊢
      revert a k1 k2 k3
      cases w.getLsbD i <;> cases M1.getLsbD i <;> cases M2.getLsbD i <;> cases V1.getLsbD i <;> cases V2.getLsbD i <;> simp
  · rintro ⟨h4, h5⟩
    rw [← h4, ← h5]
    apply BitVec.eq_of_getLsbD_eq
    intro i hi
    simp only [BitVec.getLsbD_and, BitVec.getLsbD_or]
    cases w.getLsbD i <;> cases M1.getLsbD i <;> cases M2.getLsbD i <;> rfl
theorem wd_mk2 {w M V : Int32} (M1 M2 V1 V2 : Int32) (hM : M = M1 ||| M2) (hV : V = V1 ||| V2) (h1 : V1 &&& M1 = V1) (h2 : V2 &&& M2 = V2) (h3 : M1 &&& M2 = 0) : ((w &&& M) = V) ↔ ((w &&& M1) = V1 ∧ (w &&& M2) = V2) := by
  subst hM hV
  have h := wd_bv2 w.toBitVec M1.toBitVec M2.toBitVec V1.toBitVec V2.toBitVec (congrArg Int32.toBitVec h1) (congrArg Int32.toBitVec h2) (congrArg Int32.toBitVec h3)
  constructor
  · intro g
    have h4 := h.mp (congrArg Int32.toBitVec g)
    exact ⟨Int32.toBitVec_inj.mp h4.1, Int32.toBitVec_inj.mp h4.2⟩
  · rintro ⟨g1, g2⟩
    exact Int32.toBitVec_inj.mp (h.mpr ⟨congrArg Int32.toBitVec g1, congrArg Int32.toBitVec g2⟩)
end
section
def dg_ok (w : Int32) (d0 d4 d5 d10 d11 d12 d13 d15 d16 d21 d22 d23 d24 d25 d26 d29 d30 d31 : Nat) : Prop := (d0 < 16 ∧ d4 < 2 ∧ d5 < 32 ∧ d10 < 2 ∧ d11 < 2 ∧ d12 < 2 ∧ d13 < 4 ∧ d15 < 2 ∧ d16 < 32 ∧ d21 < 2 ∧ d22 < 2 ∧ d23 < 2 ∧ d24 < 2 ∧ d25 < 2 ∧ d26 < 8 ∧ d29 < 2 ∧ d30 < 2 ∧ d31 < 2) ∧ w.toBitVec.toNat = d0 + 16 * d4 + 32 * d5 + 1024 * d10 + 2048 * d11 + 4096 * d12 + 8192 * d13 + 32768 * d15 + 65536 * d16 + 2097152 * d21 + 4194304 * d22 + 8388608 * d23 + 16777216 * d24 + 33554432 * d25 + 67108864 * d26 + 536870912 * d29 + 1073741824 * d30 + 2147483648 * d31
theorem dg_all (w : Int32) : ∃ d0 d4 d5 d10 d11 d12 d13 d15 d16 d21 d22 d23 d24 d25 d26 d29 d30 d31 : Nat, dg_ok w d0 d4 d5 d10 d11 d12 d13 d15 d16 d21 d22 d23 d24 d25 d26 d29 d30 d31 := by
  have hn : w.toBitVec.toNat < 4294967296 := w.toBitVec.isLt
  refine ⟨w.toBitVec.toNat % 16, (w.toBitVec.toNat / 16) % 2, ((w.toBitVec.toNat / 16) / 2) % 32, (((w.toBitVec.toNat / 16) / 2) / 32) % 2, ((((w.toBitVec.toNat / 16) / 2) / 32) / 2) % 2, (((((w.toBitVec.toNat / 16) / 2) / 32) / 2) / 2) % 2, ((((((w.toBitVec.toNat / 16) / 2) / 32) / 2) / 2) / 2) % 4, (((((((w.toBitVec.toNat / 16) / 2) / 32) / 2) / 2) / 2) / 4) % 2, ((((((((w.toBitVec.toNat / 16) / 2) / 32) / 2) / 2) / 2) / 4) / 2) % 32, (((((((((w.toBitVec.toNat / 16) / 2) / 32) / 2) / 2) / 2) / 4) / 2) / 32) % 2, ((((((((((w.toBitVec.toNat / 16) / 2) / 32) / 2) / 2) / 2) / 4) / 2) / 32) / 2) % 2, (((((((((((w.toBitVec.toNat / 16) / 2) / 32) / 2) / 2) / 2) / 4) / 2) / 32) / 2) / 2) % 2, ((((((((((((w.toBitVec.toNat / 16) / 2) / 32) / 2) / 2) / 2) / 4) / 2) / 32) / 2) / 2) / 2) % 2, (((((((((((((w.toBitVec.toNat / 16) / 2) / 32) / 2) / 2) / 2) / 4) / 2) / 32) / 2) / 2) / 2) / 2) % 2, ((((((((((((((w.toBitVec.toNat / 16) / 2) / 32) / 2) / 2) / 2) / 4) / 2) / 32) / 2) / 2) / 2) / 2) / 2) % 8, (((((((((((((((w.toBitVec.toNat / 16) / 2) / 32) / 2) / 2) / 2) / 4) / 2) / 32) / 2) / 2) / 2) / 2) / 2) / 8) % 2, ((((((((((((((((w.toBitVec.toNat / 16) / 2) / 32) / 2) / 2) / 2) / 4) / 2) / 32) / 2) / 2) / 2) / 2) / 2) / 8) / 2) % 2, (((((((((((((((((w.toBitVec.toNat / 16) / 2) / 32) / 2) / 2) / 2) / 4) / 2) / 32) / 2) / 2) / 2) / 2) / 2) / 8) / 2) / 2), ⟨by omega, by omega, by omega, by omega, by omega, by omega, by omega, by omega, by omega, by omega, by omega, by omega, by omega, by omega, by omega, by omega, by omega, by omega⟩, by omega⟩
theorem q_0 {w : Int32} {d0 d4 d5 d10 d11 d12 d13 d15 d16 d21 d22 d23 d24 d25 d26 d29 d30 d31 : Nat} (h : dg_ok w d0 d4 d5 d10 d11 d12 d13 d15 d16 d21 d22 d23 d24 d25 d26 d29 d30 d31) : (0 ≤ w) ↔ (d31 = 0) := by
  obtain ⟨⟨b0, b4, b5, b10, b11, b12, b13, b15, b16, b21, b22, b23, b24, b25, b26, b29, b30, b31⟩, hn⟩ := h
  exact wd_pos (A := d0 + 16 * d4 + 32 * d5 + 1024 * d10 + 2048 * d11 + 4096 * d12 + 8192 * d13 + 32768 * d15 + 65536 * d16 + 2097152 * d21 + 4194304 * d22 + 8388608 * d23 + 16777216 * d24 + 33554432 * d25 + 67108864 * d26 + 536870912 * d29 + 1073741824 * d30) (by omega) (by omega) b31
theorem sg_10_6 {w : Int32} {d0 d4 d5 d10 d11 d12 d13 d15 d16 d21 d22 d23 d24 d25 d26 d29 d30 d31 : Nat} (h : dg_ok w d0 d4 d5 d10 d11 d12 d13 d15 d16 d21 d22 d23 d24 d25 d26 d29 d30 d31) : w.toBitVec.toNat / 2 ^ 10 % 2 ^ 6 = d10 + 2 * d11 + 4 * d12 + 8 * d13 + 32 * d15 := by
  obtain ⟨⟨b0, b4, b5, b10, b11, b12, b13, b15, b16, b21, b22, b23, b24, b25, b26, b29, b30, b31⟩, hn⟩ := h
  exact wd_cut (A := d0 + 16 * d4 + 32 * d5) (C := d10 + 2 * d11 + 4 * d12 + 8 * d13 + 32 * d15) (D := d16 + 32 * d21 + 64 * d22 + 128 * d23 + 256 * d24 + 512 * d25 + 1024 * d26 + 8192 * d29 + 16384 * d30 + 32768 * d31) (by omega) (by omega) (by omega)
theorem a0_10_6 {w : Int32} {d0 d4 d5 d10 d11 d12 d13 d15 d16 d21 d22 d23 d24 d25 d26 d29 d30 d31 : Nat} (h : dg_ok w d0 d4 d5 d10 d11 d12 d13 d15 d16 d21 d22 d23 d24 d25 d26 d29 d30 d31) : fX0_bits w (10 : Int32) (6 : Int32) = nI (d10 + 2 * d11 + 4 * d12 + 8 * d13 + 32 * d15) := (wd_b0 w _ _ 10 6 (by decide) (by decide)).trans (congrArg nI (sg_10_6 h))
theorem q_1 {w : Int32} {d0 d4 d5 d10 d11 d12 d13 d15 d16 d21 d22 d23 d24 d25 d26 d29 d30 d31 : Nat} (h : dg_ok w d0 d4 d5 d10 d11 d12 d13 d15 d16 d21 d22 d23 d24 d25 d26 d29 d30 d31) : ((32 : Int32) ≤ (fX0_bits w (10 : Int32) (6 : Int32))) ↔ (32 ≤ d10 + 2 * d11 + 4 * d12 + 8 * d13 + 32 * d15) := by
  have h9 := h
  obtain ⟨⟨b0, b4, b5, b10, b11, b12, b13, b15, b16, b21, b22, b23, b24, b25, b26, b29, b30, b31⟩, hn⟩ := h9
  clear hn
  exact wd_ge (a0_10_6 h) (by omega) 32 (by decide)
theorem sg_22_1 {w : Int32} {d0 d4 d5 d10 d11 d12 d13 d15 d16 d21 d22 d23 d24 d25 d26 d29 d30 d31 : Nat} (h : dg_ok w d0 d4 d5 d10 d11 d12 d13 d15 d16 d21 d22 d23 d24 d25 d26 d29 d30 d31) : w.toBitVec.toNat / 2 ^ 22 % 2 ^ 1 = d22 := by
  obtain ⟨⟨b0, b4, b5, b10, b11, b12, b13, b15, b16, b21, b22, b23, b24, b25, b26, b29, b30, b31⟩, hn⟩ := h
  exact wd_cut (A := d0 + 16 * d4 + 32 * d5 + 1024 * d10 + 2048 * d11 + 4096 * d12 + 8192 * d13 + 32768 * d15 + 65536 * d16 + 2097152 * d21) (C := d22) (D := d23 + 2 * d24 + 4 * d25 + 8 * d26 + 64 * d29 + 128 * d30 + 256 * d31) (by omega) (by omega) (by omega)
theorem a0_22_1 {w : Int32} {d0 d4 d5 d10 d11 d12 d13 d15 d16 d21 d22 d23 d24 d25 d26 d29 d30 d31 : Nat} (h : dg_ok w d0 d4 d5 d10 d11 d12 d13 d15 d16 d21 d22 d23 d24 d25 d26 d29 d30 d31) : fX0_bits w (22 : Int32) (1 : Int32) = nI (d22) := (wd_b0 w _ _ 22 1 (by decide) (by decide)).trans (congrArg nI (sg_22_1 h))
theorem q_2 {w : Int32} {d0 d4 d5 d10 d11 d12 d13 d15 d16 d21 d22 d23 d24 d25 d26 d29 d30 d31 : Nat} (h : dg_ok w d0 d4 d5 d10 d11 d12 d13 d15 d16 d21 d22 d23 d24 d25 d26 d29 d30 d31) : ((fX0_bits w (22 : Int32) (1 : Int32)) = (1 : Int32)) ↔ (d22 = 1) := by
  have h9 := h
  obtain ⟨⟨b0, b4, b5, b10, b11, b12, b13, b15, b16, b21, b22, b23, b24, b25, b26, b29, b30, b31⟩, hn⟩ := h9
  clear hn
  exact wd_e (a0_22_1 h) (by omega) 1 (by decide)
theorem sg_23_2 {w : Int32} {d0 d4 d5 d10 d11 d12 d13 d15 d16 d21 d22 d23 d24 d25 d26 d29 d30 d31 : Nat} (h : dg_ok w d0 d4 d5 d10 d11 d12 d13 d15 d16 d21 d22 d23 d24 d25 d26 d29 d30 d31) : w.toBitVec.toNat / 2 ^ 23 % 2 ^ 2 = d23 + 2 * d24 := by
  obtain ⟨⟨b0, b4, b5, b10, b11, b12, b13, b15, b16, b21, b22, b23, b24, b25, b26, b29, b30, b31⟩, hn⟩ := h
  exact wd_cut (A := d0 + 16 * d4 + 32 * d5 + 1024 * d10 + 2048 * d11 + 4096 * d12 + 8192 * d13 + 32768 * d15 + 65536 * d16 + 2097152 * d21 + 4194304 * d22) (C := d23 + 2 * d24) (D := d25 + 2 * d26 + 16 * d29 + 32 * d30 + 64 * d31) (by omega) (by omega) (by omega)
theorem a0_23_2 {w : Int32} {d0 d4 d5 d10 d11 d12 d13 d15 d16 d21 d22 d23 d24 d25 d26 d29 d30 d31 : Nat} (h : dg_ok w d0 d4 d5 d10 d11 d12 d13 d15 d16 d21 d22 d23 d24 d25 d26 d29 d30 d31) : fX0_bits w (23 : Int32) (2 : Int32) = nI (d23 + 2 * d24) := (wd_b0 w _ _ 23 2 (by decide) (by decide)).trans (congrArg nI (sg_23_2 h))
theorem q_3 {w : Int32} {d0 d4 d5 d10 d11 d12 d13 d15 d16 d21 d22 d23 d24 d25 d26 d29 d30 d31 : Nat} (h : dg_ok w d0 d4 d5 d10 d11 d12 d13 d15 d16 d21 d22 d23 d24 d25 d26 d29 d30 d31) : ((fX0_bits w (23 : Int32) (2 : Int32)) = 0) ↔ (d23 + 2 * d24 = 0) := by
  have h9 := h
  obtain ⟨⟨b0, b4, b5, b10, b11, b12, b13, b15, b16, b21, b22, b23, b24, b25, b26, b29, b30, b31⟩, hn⟩ := h9
  clear hn
  exact wd_e (a0_23_2 h) (by omega) 0 (by decide)
theorem sg_0_5 {w : Int32} {d0 d4 d5 d10 d11 d12 d13 d15 d16 d21 d22 d23 d24 d25 d26 d29 d30 d31 : Nat} (h : dg_ok w d0 d4 d5 d10 d11 d12 d13 d15 d16 d21 d22 d23 d24 d25 d26 d29 d30 d31) : w.toBitVec.toNat / 2 ^ 0 % 2 ^ 5 = d0 + 16 * d4 := by
  obtain ⟨⟨b0, b4, b5, b10, b11, b12, b13, b15, b16, b21, b22, b23, b24, b25, b26, b29, b30, b31⟩, hn⟩ := h
  exact wd_cut (A := 0) (C := d0 + 16 * d4) (D := d5 + 32 * d10 + 64 * d11 + 128 * d12 + 256 * d13 + 1024 * d15 + 2048 * d16 + 65536 * d21 + 131072 * d22 + 262144 * d23 + 524288 * d24 + 1048576 * d25 + 2097152 * d26 + 16777216 * d29 + 33554432 * d30 + 67108864 * d31) (by omega) (by omega) (by omega)
theorem a0_0_5 {w : Int32} {d0 d4 d5 d10 d11 d12 d13 d15 d16 d21 d22 d23 d24 d25 d26 d29 d30 d31 : Nat} (h : dg_ok w d0 d4 d5 d10 d11 d12 d13 d15 d16 d21 d22 d23 d24 d25 d26 d29 d30 d31) : fX0_bits w (0 : Int32) (5 : Int32) = nI (d0 + 16 * d4) := (wd_b0 w _ _ 0 5 (by decide) (by decide)).trans (congrArg nI (sg_0_5 h))
theorem sg_10_5 {w : Int32} {d0 d4 d5 d10 d11 d12 d13 d15 d16 d21 d22 d23 d24 d25 d26 d29 d30 d31 : Nat} (h : dg_ok w d0 d4 d5 d10 d11 d12 d13 d15 d16 d21 d22 d23 d24 d25 d26 d29 d30 d31) : w.toBitVec.toNat / 2 ^ 10 % 2 ^ 5 = d10 + 2 * d11 + 4 * d12 + 8 * d13 := by
  obtain ⟨⟨b0, b4, b5, b10, b11, b12, b13, b15, b16, b21, b22, b23, b24, b25, b26, b29, b30, b31⟩, hn⟩ := h
  exact wd_cut (A := d0 + 16 * d4 + 32 * d5) (C := d10 + 2 * d11 + 4 * d12 + 8 * d13) (D := d15 + 2 * d16 + 64 * d21 + 128 * d22 + 256 * d23 + 512 * d24 + 1024 * d25 + 2048 * d26 + 16384 * d29 + 32768 * d30 + 65536 * d31) (by omega) (by omega) (by omega)
theorem a0_10_5 {w : Int32} {d0 d4 d5 d10 d11 d12 d13 d15 d16 d21 d22 d23 d24 d25 d26 d29 d30 d31 : Nat} (h : dg_ok w d0 d4 d5 d10 d11 d12 d13 d15 d16 d21 d22 d23 d24 d25 d26 d29 d30 d31) : fX0_bits w (10 : Int32) (5 : Int32) = nI (d10 + 2 * d11 + 4 * d12 + 8 * d13) := (wd_b0 w _ _ 10 5 (by decide) (by decide)).trans (congrArg nI (sg_10_5 h))
theorem q_4 {w : Int32} {d0 d4 d5 d10 d11 d12 d13 d15 d16 d21 d22 d23 d24 d25 d26 d29 d30 d31 : Nat} (h : dg_ok w d0 d4 d5 d10 d11 d12 d13 d15 d16 d21 d22 d23 d24 d25 d26 d29 d30 d31) : ((fX0_bits w (0 : Int32) (5 : Int32)) = (fX0_bits w (10 : Int32) (5 : Int32))) ↔ (d0 + 16 * d4 = d10 + 2 * d11 + 4 * d12 + 8 * d13) := by
  have h9 := h
  obtain ⟨⟨b0, b4, b5, b10, b11, b12, b13, b15, b16, b21, b22, b23, b24, b25, b26, b29, b30, b31⟩, hn⟩ := h9
  clear hn
  exact wd_ee (a0_0_5 h) (a0_10_5 h) (by omega) (by omega)
theorem q_5 {w : Int32} {d0 d4 d5 d10 d11 d12 d13 d15 d16 d21 d22 d23 d24 d25 d26 d29 d30 d31 : Nat} (h : dg_ok w d0 d4 d5 d10 d11 d12 d13 d15 d16 d21 d22 d23 d24 d25 d26 d29 d30 d31) : ((fX0_bits w (23 : Int32) (2 : Int32)) = (2 : Int32)) ↔ (d23 + 2 * d24 = 2) := by
  have h9 := h
  obtain ⟨⟨b0, b4, b5, b10, b11, b12, b13, b15, b16, b21, b22, b23, b24, b25, b26, b29, b30, b31⟩, hn⟩ := h9
  clear hn
  exact wd_e (a0_23_2 h) (by omega) 2 (by decide)
theorem sg_5_5 {w : Int32} {d0 d4 d5 d10 d11 d12 d13 d15 d16 d21 d22 d23 d24 d25 d26 d29 d30 d31 : Nat} (h : dg_ok w d0 d4 d5 d10 d11 d12 d13 d15 d16 d21 d22 d23 d24 d25 d26 d29 d30 d31) : w.toBitVec.toNat / 2 ^ 5 % 2 ^ 5 = d5 := by
  obtain ⟨⟨b0, b4, b5, b10, b11, b12, b13, b15, b16, b21, b22, b23, b24, b25, b26, b29, b30, b31⟩, hn⟩ := h
  exact wd_cut (A := d0 + 16 * d4) (C := d5) (D := d10 + 2 * d11 + 4 * d12 + 8 * d13 + 32 * d15 + 64 * d16 + 2048 * d21 + 4096 * d22 + 8192 * d23 + 16384 * d24 + 32768 * d25 + 65536 * d26 + 524288 * d29 + 1048576 * d30 + 2097152 * d31) (by omega) (by omega) (by omega)
theorem a0_5_5 {w : Int32} {d0 d4 d5 d10 d11 d12 d13 d15 d16 d21 d22 d23 d24 d25 d26 d29 d30 d31 : Nat} (h : dg_ok w d0 d4 d5 d10 d11 d12 d13 d15 d16 d21 d22 d23 d24 d25 d26 d29 d30 d31) : fX0_bits w (5 : Int32) (5 : Int32) = nI (d5) := (wd_b0 w _ _ 5 5 (by decide) (by decide)).trans (congrArg nI (sg_5_5 h))
theorem q_6 {w : Int32} {d0 d4 d5 d10 d11 d12 d13 d15 d16 d21 d22 d23 d24 d25 d26 d29 d30 d31 : Nat} (h : dg_ok w d0 d4 d5 d10 d11 d12 d13 d15 d16 d21 d22 d23 d24 d25 d26 d29 d30 d31) : ((fX0_bits w (5 : Int32) (5 : Int32)) = (31 : Int32)) ↔ (d5 = 31) := by
  have h9 := h
  obtain ⟨⟨b0, b4, b5, b10, b11, b12, b13, b15, b16, b21, b22, b23, b24, b25, b26, b29, b30, b31⟩, hn⟩ := h9
  clear hn
  exact wd_e (a0_5_5 h) (by omega) 31 (by decide)
theorem q_7 {w : Int32} {d0 d4 d5 d10 d11 d12 d13 d15 d16 d21 d22 d23 d24 d25 d26 d29 d30 d31 : Nat} (h : dg_ok w d0 d4 d5 d10 d11 d12 d13 d15 d16 d21 d22 d23 d24 d25 d26 d29 d30 d31) : ((fX0_bits w (5 : Int32) (5 : Int32)) = (fX0_bits w (0 : Int32) (5 : Int32))) ↔ (d5 = d0 + 16 * d4) := by
  have h9 := h
  obtain ⟨⟨b0, b4, b5, b10, b11, b12, b13, b15, b16, b21, b22, b23, b24, b25, b26, b29, b30, b31⟩, hn⟩ := h9
  clear hn
  exact wd_ee (a0_5_5 h) (a0_0_5 h) (by omega) (by omega)
theorem q_8 {w : Int32} {d0 d4 d5 d10 d11 d12 d13 d15 d16 d21 d22 d23 d24 d25 d26 d29 d30 d31 : Nat} (h : dg_ok w d0 d4 d5 d10 d11 d12 d13 d15 d16 d21 d22 d23 d24 d25 d26 d29 d30 d31) : ((fX0_bits w (5 : Int32) (5 : Int32)) = (fX0_bits w (10 : Int32) (5 : Int32))) ↔ (d5 = d10 + 2 * d11 + 4 * d12 + 8 * d13) := by
  have h9 := h
  obtain ⟨⟨b0, b4, b5, b10, b11, b12, b13, b15, b16, b21, b22, b23, b24, b25, b26, b29, b30, b31⟩, hn⟩ := h9
  clear hn
  exact wd_ee (a0_5_5 h) (a0_10_5 h) (by omega) (by omega)
theorem a1_23_24 {w : Int32} {d0 d4 d5 d10 d11 d12 d13 d15 d16 d21 d22 d23 d24 d25 d26 d29 d30 d31 : Nat} (h : dg_ok w d0 d4 d5 d10 d11 d12 d13 d15 d16 d21 d22 d23 d24 d25 d26 d29 d30 d31) : fX1_bits w (23 : Int32) (24 : Int32) = nI (d23 + 2 * d24) := (wd_b1 w _ _ 23 7 2 (by decide) (by decide) (by decide)).trans (congrArg nI (sg_23_2 h))
theorem q_9 {w : Int32} {d0 d4 d5 d10 d11 d12 d13 d15 d16 d21 d22 d23 d24 d25 d26 d29 d30 d31 : Nat} (h : dg_ok w d0 d4 d5 d10 d11 d12 d13 d15 d16 d21 d22 d23 d24 d25 d26 d29 d30 d31) : ((fX1_bits w (23 : Int32) (24 : Int32)) = (2 : Int32)) ↔ (d23 + 2 * d24 = 2) := by
  have h9 := h
  obtain ⟨⟨b0, b4, b5, b10, b11, b12, b13, b15, b16, b21, b22, b23, b24, b25, b26, b29, b30, b31⟩, hn⟩ := h9
  clear hn
  exact wd_e (a1_23_24 h) (by omega) 2 (by decide)
theorem q_10 {w : Int32} {d0 d4 d5 d10 d11 d12 d13 d15 d16 d21 d22 d23 d24 d25 d26 d29 d30 d31 : Nat} (h : dg_ok w d0 d4 d5 d10 d11 d12 d13 d15 d16 d21 d22 d23 d24 d25 d26 d29 d30 d31) : ((fX1_bits w (23 : Int32) (24 : Int32)) = 0) ↔ (d23 + 2 * d24 = 0) := by
  have h9 := h
  obtain ⟨⟨b0, b4, b5, b10, b11, b12, b13, b15, b16, b21, b22, b23, b24, b25, b26, b29, b30, b31⟩, hn⟩ := h9
  clear hn
  exact wd_e (a1_23_24 h) (by omega) 0 (by decide)
theorem a1_22_22 {w : Int32} {d0 d4 d5 d10 d11 d12 d13 d15 d16 d21 d22 d23 d24 d25 d26 d29 d30 d31 : Nat} (h : dg_ok w d0 d4 d5 d10 d11 d12 d13 d15 d16 d21 d22 d23 d24 d25 d26 d29 d30 d31) : fX1_bits w (22 : Int32) (22 : Int32) = nI (d22) := (wd_b1 w _ _ 22 9 1 (by decide) (by decide) (by decide)).trans (congrArg nI (sg_22_1 h))
theorem q_11 {w : Int32} {d0 d4 d5 d10 d11 d12 d13 d15 d16 d21 d22 d23 d24 d25 d26 d29 d30 d31 : Nat} (h : dg_ok w d0 d4 d5 d10 d11 d12 d13 d15 d16 d21 d22 d23 d24 d25 d26 d29 d30 d31) : ((fX1_bits w (22 : Int32) (22 : Int32)) = 0) ↔ (d22 = 0) := by
  have h9 := h
  obtain ⟨⟨b0, b4, b5, b10, b11, b12, b13, b15, b16, b21, b22, b23, b24, b25, b26, b29, b30, b31⟩, hn⟩ := h9
  clear hn
  exact wd_e (a1_22_22 h) (by omega) 0 (by decide)
theorem a1_0_4 {w : Int32} {d0 d4 d5 d10 d11 d12 d13 d15 d16 d21 d22 d23 d24 d25 d26 d29 d30 d31 : Nat} (h : dg_ok w d0 d4 d5 d10 d11 d12 d13 d15 d16 d21 d22 d23 d24 d25 d26 d29 d30 d31) : fX1_bits w (0 : Int32) (4 : Int32) = nI (d0 + 16 * d4) := (wd_b1 w _ _ 0 27 5 (by decide) (by decide) (by decide)).trans (congrArg nI (sg_0_5 h))
theorem a1_10_14 {w : Int32} {d0 d4 d5 d10 d11 d12 d13 d15 d16 d21 d22 d23 d24 d25 d26 d29 d30 d31 : Nat} (h : dg_ok w d0 d4 d5 d10 d11 d12 d13 d15 d16 d21 d22 d23 d24 d25 d26 d29 d30 d31) : fX1_bits w (10 : Int32) (14 : Int32) = nI (d10 + 2 * d11 + 4 * d12 + 8 * d13) := (wd_b1 w _ _ 10 17 5 (by decide) (by decide) (by decide)).trans (congrArg nI (sg_10_5 h))
theorem q_12 {w : Int32} {d0 d4 d5 d10 d11 d12 d13 d15 d16 d21 d22 d23 d24 d25 d26 d29 d30 d31 : Nat} (h : dg_ok w d0 d4 d5 d10 d11 d12 d13 d15 d16 d21 d22 d23 d24 d25 d26 d29 d30 d31) : ((fX1_bits w (0 : Int32) (4 : Int32)) = (fX1_bits w (10 : Int32) (14 : Int32))) ↔ (d0 + 16 * d4 = d10 + 2 * d11 + 4 * d12 + 8 * d13) := by
  have h9 := h
  obtain ⟨⟨b0, b4, b5, b10, b11, b12, b13, b15, b16, b21, b22, b23, b24, b25, b26, b29, b30, b31⟩, hn⟩ := h9
  clear hn
  exact wd_ee (a1_0_4 h) (a1_10_14 h) (by omega) (by omega)
theorem a1_5_9 {w : Int32} {d0 d4 d5 d10 d11 d12 d13 d15 d16 d21 d22 d23 d24 d25 d26 d29 d30 d31 : Nat} (h : dg_ok w d0 d4 d5 d10 d11 d12 d13 d15 d16 d21 d22 d23 d24 d25 d26 d29 d30 d31) : fX1_bits w (5 : Int32) (9 : Int32) = nI (d5) := (wd_b1 w _ _ 5 22 5 (by decide) (by decide) (by decide)).trans (congrArg nI (sg_5_5 h))
theorem q_13 {w : Int32} {d0 d4 d5 d10 d11 d12 d13 d15 d16 d21 d22 d23 d24 d25 d26 d29 d30 d31 : Nat} (h : dg_ok w d0 d4 d5 d10 d11 d12 d13 d15 d16 d21 d22 d23 d24 d25 d26 d29 d30 d31) : ((fX1_bits w (5 : Int32) (9 : Int32)) = (31 : Int32)) ↔ (d5 = 31) := by
  have h9 := h
  obtain ⟨⟨b0, b4, b5, b10, b11, b12, b13, b15, b16, b21, b22, b23, b24, b25, b26, b29, b30, b31⟩, hn⟩ := h9
  clear hn
  exact wd_e (a1_5_9 h) (by omega) 31 (by decide)
theorem q_14 {w : Int32} {d0 d4 d5 d10 d11 d12 d13 d15 d16 d21 d22 d23 d24 d25 d26 d29 d30 d31 : Nat} (h : dg_ok w d0 d4 d5 d10 d11 d12 d13 d15 d16 d21 d22 d23 d24 d25 d26 d29 d30 d31) : ((fX1_bits w (5 : Int32) (9 : Int32)) = (fX1_bits w (0 : Int32) (4 : Int32))) ↔ (d5 = d0 + 16 * d4) := by
  have h9 := h
  obtain ⟨⟨b0, b4, b5, b10, b11, b12, b13, b15, b16, b21, b22, b23, b24, b25, b26, b29, b30, b31⟩, hn⟩ := h9
  clear hn
  exact wd_ee (a1_5_9 h) (a1_0_4 h) (by omega) (by omega)
theorem q_15 {w : Int32} {d0 d4 d5 d10 d11 d12 d13 d15 d16 d21 d22 d23 d24 d25 d26 d29 d30 d31 : Nat} (h : dg_ok w d0 d4 d5 d10 d11 d12 d13 d15 d16 d21 d22 d23 d24 d25 d26 d29 d30 d31) : ((fX1_bits w (5 : Int32) (9 : Int32)) = (fX1_bits w (10 : Int32) (14 : Int32))) ↔ (d5 = d10 + 2 * d11 + 4 * d12 + 8 * d13) := by
  have h9 := h
  obtain ⟨⟨b0, b4, b5, b10, b11, b12, b13, b15, b16, b21, b22, b23, b24, b25, b26, b29, b30, b31⟩, hn⟩ := h9
  clear hn
  exact wd_ee (a1_5_9 h) (a1_10_14 h) (by omega) (by omega)
theorem q_16 {w : Int32} {d0 d4 d5 d10 d11 d12 d13 d15 d16 d21 d22 d23 d24 d25 d26 d29 d30 d31 : Nat} (h : dg_ok w d0 d4 d5 d10 d11 d12 d13 d15 d16 d21 d22 d23 d24 d25 d26 d29 d30 d31) : (w < 0) ↔ (d31 = 1) := by
  obtain ⟨⟨b0, b4, b5, b10, b11, b12, b13, b15, b16, b21, b22, b23, b24, b25, b26, b29, b30, b31⟩, hn⟩ := h
  exact wd_neg (A := d0 + 16 * d4 + 32 * d5 + 1024 * d10 + 2048 * d11 + 4096 * d12 + 8192 * d13 + 32768 * d15 + 65536 * d16 + 2097152 * d21 + 4194304 * d22 + 8388608 * d23 + 16777216 * d24 + 33554432 * d25 + 67108864 * d26 + 536870912 * d29 + 1073741824 * d30) (by omega) (by omega) b31
theorem sg_15_1 {w : Int32} {d0 d4 d5 d10 d11 d12 d13 d15 d16 d21 d22 d23 d24 d25 d26 d29 d30 d31 : Nat} (h : dg_ok w d0 d4 d5 d10 d11 d12 d13 d15 d16 d21 d22 d23 d24 d25 d26 d29 d30 d31) : w.toBitVec.toNat / 2 ^ 15 % 2 ^ 1 = d15 := by
  obtain ⟨⟨b0, b4, b5, b10, b11, b12, b13, b15, b16, b21, b22, b23, b24, b25, b26, b29, b30, b31⟩, hn⟩ := h
  exact wd_cut (A := d0 + 16 * d4 + 32 * d5 + 1024 * d10 + 2048 * d11 + 4096 * d12 + 8192 * d13) (C := d15) (D := d16 + 32 * d21 + 64 * d22 + 128 * d23 + 256 * d24 + 512 * d25 + 1024 * d26 + 8192 * d29 + 16384 * d30 + 32768 * d31) (by omega) (by omega) (by omega)
theorem a1_15_15 {w : Int32} {d0 d4 d5 d10 d11 d12 d13 d15 d16 d21 d22 d23 d24 d25 d26 d29 d30 d31 : Nat} (h : dg_ok w d0 d4 d5 d10 d11 d12 d13 d15 d16 d21 d22 d23 d24 d25 d26 d29 d30 d31) : fX1_bits w (15 : Int32) (15 : Int32) = nI (d15) := (wd_b1 w _ _ 15 16 1 (by decide) (by decide) (by decide)).trans (congrArg nI (sg_15_1 h))
theorem q_17 {w : Int32} {d0 d4 d5 d10 d11 d12 d13 d15 d16 d21 d22 d23 d24 d25 d26 d29 d30 d31 : Nat} (h : dg_ok w d0 d4 d5 d10 d11 d12 d13 d15 d16 d21 d22 d23 d24 d25 d26 d29 d30 d31) : ((fX1_bits w (15 : Int32) (15 : Int32)) = 0) ↔ (d15 = 0) := by
  have h9 := h
  obtain ⟨⟨b0, b4, b5, b10, b11, b12, b13, b15, b16, b21, b22, b23, b24, b25, b26, b29, b30, b31⟩, hn⟩ := h9
  clear hn
  exact wd_e (a1_15_15 h) (by omega) 0 (by decide)
theorem sg_21_1 {w : Int32} {d0 d4 d5 d10 d11 d12 d13 d15 d16 d21 d22 d23 d24 d25 d26 d29 d30 d31 : Nat} (h : dg_ok w d0 d4 d5 d10 d11 d12 d13 d15 d16 d21 d22 d23 d24 d25 d26 d29 d30 d31) : w.toBitVec.toNat / 2 ^ 21 % 2 ^ 1 = d21 := by
  obtain ⟨⟨b0, b4, b5, b10, b11, b12, b13, b15, b16, b21, b22, b23, b24, b25, b26, b29, b30, b31⟩, hn⟩ := h
  exact wd_cut (A := d0 + 16 * d4 + 32 * d5 + 1024 * d10 + 2048 * d11 + 4096 * d12 + 8192 * d13 + 32768 * d15 + 65536 * d16) (C := d21) (D := d22 + 2 * d23 + 4 * d24 + 8 * d25 + 16 * d26 + 128 * d29 + 256 * d30 + 512 * d31) (by omega) (by omega) (by omega)
theorem a1_21_21 {w : Int32} {d0 d4 d5 d10 d11 d12 d13 d15 d16 d21 d22 d23 d24 d25 d26 d29 d30 d31 : Nat} (h : dg_ok w d0 d4 d5 d10 d11 d12 d13 d15 d16 d21 d22 d23 d24 d25 d26 d29 d30 d31) : fX1_bits w (21 : Int32) (21 : Int32) = nI (d21) := (wd_b1 w _ _ 21 10 1 (by decide) (by decide) (by decide)).trans (congrArg nI (sg_21_1 h))
theorem q_18 {w : Int32} {d0 d4 d5 d10 d11 d12 d13 d15 d16 d21 d22 d23 d24 d25 d26 d29 d30 d31 : Nat} (h : dg_ok w d0 d4 d5 d10 d11 d12 d13 d15 d16 d21 d22 d23 d24 d25 d26 d29 d30 d31) : ((fX1_bits w (21 : Int32) (21 : Int32)) = (1 : Int32)) ↔ (d21 = 1) := by
  have h9 := h
  obtain ⟨⟨b0, b4, b5, b10, b11, b12, b13, b15, b16, b21, b22, b23, b24, b25, b26, b29, b30, b31⟩, hn⟩ := h9
  clear hn
  exact wd_e (a1_21_21 h) (by omega) 1 (by decide)
theorem sg_13_3 {w : Int32} {d0 d4 d5 d10 d11 d12 d13 d15 d16 d21 d22 d23 d24 d25 d26 d29 d30 d31 : Nat} (h : dg_ok w d0 d4 d5 d10 d11 d12 d13 d15 d16 d21 d22 d23 d24 d25 d26 d29 d30 d31) : w.toBitVec.toNat / 2 ^ 13 % 2 ^ 3 = d13 + 4 * d15 := by
  obtain ⟨⟨b0, b4, b5, b10, b11, b12, b13, b15, b16, b21, b22, b23, b24, b25, b26, b29, b30, b31⟩, hn⟩ := h
  exact wd_cut (A := d0 + 16 * d4 + 32 * d5 + 1024 * d10 + 2048 * d11 + 4096 * d12) (C := d13 + 4 * d15) (D := d16 + 32 * d21 + 64 * d22 + 128 * d23 + 256 * d24 + 512 * d25 + 1024 * d26 + 8192 * d29 + 16384 * d30 + 32768 * d31) (by omega) (by omega) (by omega)
theorem a1_13_15 {w : Int32} {d0 d4 d5 d10 d11 d12 d13 d15 d16 d21 d22 d23 d24 d25 d26 d29 d30 d31 : Nat} (h : dg_ok w d0 d4 d5 d10 d11 d12 d13 d15 d16 d21 d22 d23 d24 d25 d26 d29 d30 d31) : fX1_bits w (13 : Int32) (15 : Int32) = nI (d13 + 4 * d15) := (wd_b1 w _ _ 13 16 3 (by decide) (by decide) (by decide)).trans (congrArg nI (sg_13_3 h))
theorem q_19 {w : Int32} {d0 d4 d5 d10 d11 d12 d13 d15 d16 d21 d22 d23 d24 d25 d26 d29 d30 d31 : Nat} (h : dg_ok w d0 d4 d5 d10 d11 d12 d13 d15 d16 d21 d22 d23 d24 d25 d26 d29 d30 d31) : ((fX1_bits w (13 : Int32) (15 : Int32)) = (3 : Int32)) ↔ (d13 + 4 * d15 = 3) := by
  have h9 := h
  obtain ⟨⟨b0, b4, b5, b10, b11, b12, b13, b15, b16, b21, b22, b23, b24, b25, b26, b29, b30, b31⟩, hn⟩ := h9
  clear hn
  exact wd_e (a1_13_15 h) (by omega) 3 (by decide)
theorem sg_10_2 {w : Int32} {d0 d4 d5 d10 d11 d12 d13 d15 d16 d21 d22 d23 d24 d25 d26 d29 d30 d31 : Nat} (h : dg_ok w d0 d4 d5 d10 d11 d12 d13 d15 d16 d21 d22 d23 d24 d25 d26 d29 d30 d31) : w.toBitVec.toNat / 2 ^ 10 % 2 ^ 2 = d10 + 2 * d11 := by
  obtain ⟨⟨b0, b4, b5, b10, b11, b12, b13, b15, b16, b21, b22, b23, b24, b25, b26, b29, b30, b31⟩, hn⟩ := h
  exact wd_cut (A := d0 + 16 * d4 + 32 * d5) (C := d10 + 2 * d11) (D := d12 + 2 * d13 + 8 * d15 + 16 * d16 + 512 * d21 + 1024 * d22 + 2048 * d23 + 4096 * d24 + 8192 * d25 + 16384 * d26 + 131072 * d29 + 262144 * d30 + 524288 * d31) (by omega) (by omega) (by omega)
theorem a1_10_11 {w : Int32} {d0 d4 d5 d10 d11 d12 d13 d15 d16 d21 d22 d23 d24 d25 d26 d29 d30 d31 : Nat} (h : dg_ok w d0 d4 d5 d10 d11 d12 d13 d15 d16 d21 d22 d23 d24 d25 d26 d29 d30 d31) : fX1_bits w (10 : Int32) (11 : Int32) = nI (d10 + 2 * d11) := (wd_b1 w _ _ 10 20 2 (by decide) (by decide) (by decide)).trans (congrArg nI (sg_10_2 h))
theorem q_20 {w : Int32} {d0 d4 d5 d10 d11 d12 d13 d15 d16 d21 d22 d23 d24 d25 d26 d29 d30 d31 : Nat} (h : dg_ok w d0 d4 d5 d10 d11 d12 d13 d15 d16 d21 d22 d23 d24 d25 d26 d29 d30 d31) : ((fX1_bits w (10 : Int32) (11 : Int32)) = (2 : Int32)) ↔ (d10 + 2 * d11 = 2) := by
  have h9 := h
  obtain ⟨⟨b0, b4, b5, b10, b11, b12, b13, b15, b16, b21, b22, b23, b24, b25, b26, b29, b30, b31⟩, hn⟩ := h9
  clear hn
  exact wd_e (a1_10_11 h) (by omega) 2 (by decide)
theorem sg_30_2 {w : Int32} {d0 d4 d5 d10 d11 d12 d13 d15 d16 d21 d22 d23 d24 d25 d26 d29 d30 d31 : Nat} (h : dg_ok w d0 d4 d5 d10 d11 d12 d13 d15 d16 d21 d22 d23 d24 d25 d26 d29 d30 d31) : w.toBitVec.toNat / 2 ^ 30 % 2 ^ 2 = d30 + 2 * d31 := by
  obtain ⟨⟨b0, b4, b5, b10, b11, b12, b13, b15, b16, b21, b22, b23, b24, b25, b26, b29, b30, b31⟩, hn⟩ := h
  exact wd_cut (A := d0 + 16 * d4 + 32 * d5 + 1024 * d10 + 2048 * d11 + 4096 * d12 + 8192 * d13 + 32768 * d15 + 65536 * d16 + 2097152 * d21 + 4194304 * d22 + 8388608 * d23 + 16777216 * d24 + 33554432 * d25 + 67108864 * d26 + 536870912 * d29) (C := d30 + 2 * d31) (D := 0) (by omega) (by omega) (by omega)
theorem a1_30_31 {w : Int32} {d0 d4 d5 d10 d11 d12 d13 d15 d16 d21 d22 d23 d24 d25 d26 d29 d30 d31 : Nat} (h : dg_ok w d0 d4 d5 d10 d11 d12 d13 d15 d16 d21 d22 d23 d24 d25 d26 d29 d30 d31) : fX1_bits w (30 : Int32) (31 : Int32) = nI (d30 + 2 * d31) := (wd_b1 w _ _ 30 0 2 (by decide) (by decide) (by decide)).trans (congrArg nI (sg_30_2 h))
theorem q_21 {w : Int32} {d0 d4 d5 d10 d11 d12 d13 d15 d16 d21 d22 d23 d24 d25 d26 d29 d30 d31 : Nat} (h : dg_ok w d0 d4 d5 d10 d11 d12 d13 d15 d16 d21 d22 d23 d24 d25 d26 d29 d30 d31) : ((fX1_bits w (30 : Int32) (31 : Int32)) = (1 : Int32)) ↔ (d30 + 2 * d31 = 1) := by
  have h9 := h
  obtain ⟨⟨b0, b4, b5, b10, b11, b12, b13, b15, b16, b21, b22, b23, b24, b25, b26, b29, b30, b31⟩, hn⟩ := h9
  clear hn
  exact wd_e (a1_30_31 h) (by omega) 1 (by decide)
theorem sg_22_2 {w : Int32} {d0 d4 d5 d10 d11 d12 d13 d15 d16 d21 d22 d23 d24 d25 d26 d29 d30 d31 : Nat} (h : dg_ok w d0 d4 d5 d10 d11 d12 d13 d15 d16 d21 d22 d23 d24 d25 d26 d29 d30 d31) : w.toBitVec.toNat / 2 ^ 22 % 2 ^ 2 = d22 + 2 * d23 := by
  obtain ⟨⟨b0, b4, b5, b10, b11, b12, b13, b15, b16, b21, b22, b23, b24, b25, b26, b29, b30, b31⟩, hn⟩ := h
  exact wd_cut (A := d0 + 16 * d4 + 32 * d5 + 1024 * d10 + 2048 * d11 + 4096 * d12 + 8192 * d13 + 32768 * d15 + 65536 * d16 + 2097152 * d21) (C := d22 + 2 * d23) (D := d24 + 2 * d25 + 4 * d26 + 32 * d29 + 64 * d30 + 128 * d31) (by omega) (by omega) (by omega)
theorem a1_22_23 {w : Int32} {d0 d4 d5 d10 d11 d12 d13 d15 d16 d21 d22 d23 d24 d25 d26 d29 d30 d31 : Nat} (h : dg_ok w d0 d4 d5 d10 d11 d12 d13 d15 d16 d21 d22 d23 d24 d25 d26 d29 d30 d31) : fX1_bits w (22 : Int32) (23 : Int32) = nI (d22 + 2 * d23) := (wd_b1 w _ _ 22 8 2 (by decide) (by decide) (by decide)).trans (congrArg nI (sg_22_2 h))
theorem q_22 {w : Int32} {d0 d4 d5 d10 d11 d12 d13 d15 d16 d21 d22 d23 d24 d25 d26 d29 d30 d31 : Nat} (h : dg_ok w d0 d4 d5 d10 d11 d12 d13 d15 d16 d21 d22 d23 d24 d25 d26 d29 d30 d31) : ((fX1_bits w (22 : Int32) (23 : Int32)) < (2 : Int32)) ↔ (d22 + 2 * d23 < 2) := by
  have h9 := h
  obtain ⟨⟨b0, b4, b5, b10, b11, b12, b13, b15, b16, b21, b22, b23, b24, b25, b26, b29, b30, b31⟩, hn⟩ := h9
  clear hn
  exact wd_lt (a1_22_23 h) (by omega) 2 (by decide)
theorem q_23 {w : Int32} {d0 d4 d5 d10 d11 d12 d13 d15 d16 d21 d22 d23 d24 d25 d26 d29 d30 d31 : Nat} (h : dg_ok w d0 d4 d5 d10 d11 d12 d13 d15 d16 d21 d22 d23 d24 d25 d26 d29 d30 d31) : ((fX1_bits w (22 : Int32) (23 : Int32)) = (2 : Int32)) ↔ (d22 + 2 * d23 = 2) := by
  have h9 := h
  obtain ⟨⟨b0, b4, b5, b10, b11, b12, b13, b15, b16, b21, b22, b23, b24, b25, b26, b29, b30, b31⟩, hn⟩ := h9
  clear hn
  exact wd_e (a1_22_23 h) (by omega) 2 (by decide)
theorem q_24 {w : Int32} {d0 d4 d5 d10 d11 d12 d13 d15 d16 d21 d22 d23 d24 d25 d26 d29 d30 d31 : Nat} (h : dg_ok w d0 d4 d5 d10 d11 d12 d13 d15 d16 d21 d22 d23 d24 d25 d26 d29 d30 d31) : ((fX1_bits w (30 : Int32) (31 : Int32)) = (2 : Int32)) ↔ (d30 + 2 * d31 = 2) := by
  have h9 := h
  obtain ⟨⟨b0, b4, b5, b10, b11, b12, b13, b15, b16, b21, b22, b23, b24, b25, b26, b29, b30, b31⟩, hn⟩ := h9
  clear hn
  exact wd_e (a1_30_31 h) (by omega) 2 (by decide)
theorem sg_21_3 {w : Int32} {d0 d4 d5 d10 d11 d12 d13 d15 d16 d21 d22 d23 d24 d25 d26 d29 d30 d31 : Nat} (h : dg_ok w d0 d4 d5 d10 d11 d12 d13 d15 d16 d21 d22 d23 d24 d25 d26 d29 d30 d31) : w.toBitVec.toNat / 2 ^ 21 % 2 ^ 3 = d21 + 2 * d22 + 4 * d23 := by
  obtain ⟨⟨b0, b4, b5, b10, b11, b12, b13, b15, b16, b21, b22, b23, b24, b25, b26, b29, b30, b31⟩, hn⟩ := h
  exact wd_cut (A := d0 + 16 * d4 + 32 * d5 + 1024 * d10 + 2048 * d11 + 4096 * d12 + 8192 * d13 + 32768 * d15 + 65536 * d16) (C := d21 + 2 * d22 + 4 * d23) (D := d24 + 2 * d25 + 4 * d26 + 32 * d29 + 64 * d30 + 128 * d31) (by omega) (by omega) (by omega)
theorem a1_21_23 {w : Int32} {d0 d4 d5 d10 d11 d12 d13 d15 d16 d21 d22 d23 d24 d25 d26 d29 d30 d31 : Nat} (h : dg_ok w d0 d4 d5 d10 d11 d12 d13 d15 d16 d21 d22 d23 d24 d25 d26 d29 d30 d31) : fX1_bits w (21 : Int32) (23 : Int32) = nI (d21 + 2 * d22 + 4 * d23) := (wd_b1 w _ _ 21 8 3 (by decide) (by decide) (by decide)).trans (congrArg nI (sg_21_3 h))
theorem q_25 {w : Int32} {d0 d4 d5 d10 d11 d12 d13 d15 d16 d21 d22 d23 d24 d25 d26 d29 d30 d31 : Nat} (h : dg_ok w d0 d4 d5 d10 d11 d12 d13 d15 d16 d21 d22 d23 d24 d25 d26 d29 d30 d31) : (0 < (fX1_bits w (0 : Int32) (4 : Int32))) ↔ (0 < d0 + 16 * d4) := by
  have h9 := h
  obtain ⟨⟨b0, b4, b5, b10, b11, b12, b13, b15, b16, b21, b22, b23, b24, b25, b26, b29, b30, b31⟩, hn⟩ := h9
  clear hn
  exact wd_gt (a1_0_4 h) (by omega) 0 (by decide)
theorem a1_10_15 {w : Int32} {d0 d4 d5 d10 d11 d12 d13 d15 d16 d21 d22 d23 d24 d25 d26 d29 d30 d31 : Nat} (h : dg_ok w d0 d4 d5 d10 d11 d12 d13 d15 d16 d21 d22 d23 d24 d25 d26 d29 d30 d31) : fX1_bits w (10 : Int32) (15 : Int32) = nI (d10 + 2 * d11 + 4 * d12 + 8 * d13 + 32 * d15) := (wd_b1 w _ _ 10 16 6 (by decide) (by decide) (by decide)).trans (congrArg nI (sg_10_6 h))
theorem q_26 {w : Int32} {d0 d4 d5 d10 d11 d12 d13 d15 d16 d21 d22 d23 d24 d25 d26 d29 d30 d31 : Nat} (h : dg_ok w d0 d4 d5 d10 d11 d12 d13 d15 d16 d21 d22 d23 d24 d25 d26 d29 d30 d31) : (0 < (fX1_bits w (10 : Int32) (15 : Int32))) ↔ (0 < d10 + 2 * d11 + 4 * d12 + 8 * d13 + 32 * d15) := by
  have h9 := h
  obtain ⟨⟨b0, b4, b5, b10, b11, b12, b13, b15, b16, b21, b22, b23, b24, b25, b26, b29, b30, b31⟩, hn⟩ := h9
  clear hn
  exact wd_gt (a1_10_15 h) (by omega) 0 (by decide)
theorem sg_16_5 {w : Int32} {d0 d4 d5 d10 d11 d12 d13 d15 d16 d21 d22 d23 d24 d25 d26 d29 d30 d31 : Nat} (h : dg_ok w d0 d4 d5 d10 d11 d12 d13 d15 d16 d21 d22 d23 d24 d25 d26 d29 d30 d31) : w.toBitVec.toNat / 2 ^ 16 % 2 ^ 5 = d16 := by
  obtain ⟨⟨b0, b4, b5, b10, b11, b12, b13, b15, b16, b21, b22, b23, b24, b25, b26, b29, b30, b31⟩, hn⟩ := h
  exact wd_cut (A := d0 + 16 * d4 + 32 * d5 + 1024 * d10 + 2048 * d11 + 4096 * d12 + 8192 * d13 + 32768 * d15) (C := d16) (D := d21 + 2 * d22 + 4 * d23 + 8 * d24 + 16 * d25 + 32 * d26 + 256 * d29 + 512 * d30 + 1024 * d31) (by omega) (by omega) (by omega)
theorem a1_16_20 {w : Int32} {d0 d4 d5 d10 d11 d12 d13 d15 d16 d21 d22 d23 d24 d25 d26 d29 d30 d31 : Nat} (h : dg_ok w d0 d4 d5 d10 d11 d12 d13 d15 d16 d21 d22 d23 d24 d25 d26 d29 d30 d31) : fX1_bits w (16 : Int32) (20 : Int32) = nI (d16) := (wd_b1 w _ _ 16 11 5 (by decide) (by decide) (by decide)).trans (congrArg nI (sg_16_5 h))
theorem q_27 {w : Int32} {d0 d4 d5 d10 d11 d12 d13 d15 d16 d21 d22 d23 d24 d25 d26 d29 d30 d31 : Nat} (h : dg_ok w d0 d4 d5 d10 d11 d12 d13 d15 d16 d21 d22 d23 d24 d25 d26 d29 d30 d31) : ((fX1_bits w (16 : Int32) (20 : Int32)) = (31 : Int32)) ↔ (d16 = 31) := by
  have h9 := h
  obtain ⟨⟨b0, b4, b5, b10, b11, b12, b13, b15, b16, b21, b22, b23, b24, b25, b26, b29, b30, b31⟩, hn⟩ := h9
  clear hn
  exact wd_e (a1_16_20 h) (by omega) 31 (by decide)
theorem q_28 {w : Int32} {d0 d4 d5 d10 d11 d12 d13 d15 d16 d21 d22 d23 d24 d25 d26 d29 d30 d31 : Nat} (h : dg_ok w d0 d4 d5 d10 d11 d12 d13 d15 d16 d21 d22 d23 d24 d25 d26 d29 d30 d31) : ((3 : Int32) ≤ (fX1_bits w (21 : Int32) (23 : Int32))) ↔ (3 ≤ d21 + 2 * d22 + 4 * d23) := by
  have h9 := h
  obtain ⟨⟨b0, b4, b5, b10, b11, b12, b13, b15, b16, b21, b22, b23, b24, b25, b26, b29, b30, b31⟩, hn⟩ := h9
  clear hn
  exact wd_ge (a1_21_23 h) (by omega) 3 (by decide)
theorem sg_26_6 {w : Int32} {d0 d4 d5 d10 d11 d12 d13 d15 d16 d21 d22 d23 d24 d25 d26 d29 d30 d31 : Nat} (h : dg_ok w d0 d4 d5 d10 d11 d12 d13 d15 d16 d21 d22 d23 d24 d25 d26 d29 d30 d31) : w.toBitVec.toNat / 2 ^ 26 % 2 ^ 6 = d26 + 8 * d29 + 16 * d30 + 32 * d31 := by
  obtain ⟨⟨b0, b4, b5, b10, b11, b12, b13, b15, b16, b21, b22, b23, b24, b25, b26, b29, b30, b31⟩, hn⟩ := h
  exact wd_cut (A := d0 + 16 * d4 + 32 * d5 + 1024 * d10 + 2048 * d11 + 4096 * d12 + 8192 * d13 + 32768 * d15 + 65536 * d16 + 2097152 * d21 + 4194304 * d22 + 8388608 * d23 + 16777216 * d24 + 33554432 * d25) (C := d26 + 8 * d29 + 16 * d30 + 32 * d31) (D := 0) (by omega) (by omega) (by omega)
theorem a1_26_31 {w : Int32} {d0 d4 d5 d10 d11 d12 d13 d15 d16 d21 d22 d23 d24 d25 d26 d29 d30 d31 : Nat} (h : dg_ok w d0 d4 d5 d10 d11 d12 d13 d15 d16 d21 d22 d23 d24 d25 d26 d29 d30 d31) : fX1_bits w (26 : Int32) (31 : Int32) = nI (d26 + 8 * d29 + 16 * d30 + 32 * d31) := (wd_b1 w _ _ 26 0 6 (by decide) (by decide) (by decide)).trans (congrArg nI (sg_26_6 h))
theorem q_29 {w : Int32} {d0 d4 d5 d10 d11 d12 d13 d15 d16 d21 d22 d23 d24 d25 d26 d29 d30 d31 : Nat} (h : dg_ok w d0 d4 d5 d10 d11 d12 d13 d15 d16 d21 d22 d23 d24 d25 d26 d29 d30 d31) : ((fX1_bits w (26 : Int32) (31 : Int32)) = (5 : Int32)) ↔ (d26 + 8 * d29 + 16 * d30 + 32 * d31 = 5) := by
  have h9 := h
  obtain ⟨⟨b0, b4, b5, b10, b11, b12, b13, b15, b16, b21, b22, b23, b24, b25, b26, b29, b30, b31⟩, hn⟩ := h9
  clear hn
  exact wd_e (a1_26_31 h) (by omega) 5 (by decide)
theorem q_30 {w : Int32} {d0 d4 d5 d10 d11 d12 d13 d15 d16 d21 d22 d23 d24 d25 d26 d29 d30 d31 : Nat} (h : dg_ok w d0 d4 d5 d10 d11 d12 d13 d15 d16 d21 d22 d23 d24 d25 d26 d29 d30 d31) : ((fX1_bits w (26 : Int32) (31 : Int32)) = (37 : Int32)) ↔ (d26 + 8 * d29 + 16 * d30 + 32 * d31 = 37) := by
  have h9 := h
  obtain ⟨⟨b0, b4, b5, b10, b11, b12, b13, b15, b16, b21, b22, b23, b24, b25, b26, b29, b30, b31⟩, hn⟩ := h9
  clear hn
  exact wd_e (a1_26_31 h) (by omega) 37 (by decide)
theorem sg_24_8 {w : Int32} {d0 d4 d5 d10 d11 d12 d13 d15 d16 d21 d22 d23 d24 d25 d26 d29 d30 d31 : Nat} (h : dg_ok w d0 d4 d5 d10 d11 d12 d13 d15 d16 d21 d22 d23 d24 d25 d26 d29 d30 d31) : w.toBitVec.toNat / 2 ^ 24 % 2 ^ 8 = d24 + 2 * d25 + 4 * d26 + 32 * d29 + 64 * d30 + 128 * d31 := by
  obtain ⟨⟨b0, b4, b5, b10, b11, b12, b13, b15, b16, b21, b22, b23, b24, b25, b26, b29, b30, b31⟩, hn⟩ := h
  exact wd_cut (A := d0 + 16 * d4 + 32 * d5 + 1024 * d10 + 2048 * d11 + 4096 * d12 + 8192 * d13 + 32768 * d15 + 65536 * d16 + 2097152 * d21 + 4194304 * d22 + 8388608 * d23) (C := d24 + 2 * d25 + 4 * d26 + 32 * d29 + 64 * d30 + 128 * d31) (D := 0) (by omega) (by omega) (by omega)
theorem a1_24_31 {w : Int32} {d0 d4 d5 d10 d11 d12 d13 d15 d16 d21 d22 d23 d24 d25 d26 d29 d30 d31 : Nat} (h : dg_ok w d0 d4 d5 d10 d11 d12 d13 d15 d16 d21 d22 d23 d24 d25 d26 d29 d30 d31) : fX1_bits w (24 : Int32) (31 : Int32) = nI (d24 + 2 * d25 + 4 * d26 + 32 * d29 + 64 * d30 + 128 * d31) := (wd_b1 w _ _ 24 0 8 (by decide) (by decide) (by decide)).trans (congrArg nI (sg_24_8 h))
theorem q_31 {w : Int32} {d0 d4 d5 d10 d11 d12 d13 d15 d16 d21 d22 d23 d24 d25 d26 d29 d30 d31 : Nat} (h : dg_ok w d0 d4 d5 d10 d11 d12 d13 d15 d16 d21 d22 d23 d24 d25 d26 d29 d30 d31) : ((fX1_bits w (24 : Int32) (31 : Int32)) = (84 : Int32)) ↔ (d24 + 2 * d25 + 4 * d26 + 32 * d29 + 64 * d30 + 128 * d31 = 84) := by
  have h9 := h
  obtain ⟨⟨b0, b4, b5, b10, b11, b12, b13, b15, b16, b21, b22, b23, b24, b25, b26, b29, b30, b31⟩, hn⟩ := h9
  clear hn
  exact wd_e (a1_24_31 h) (by omega) 84 (by decide)
theorem sg_4_1 {w : Int32} {d0 d4 d5 d10 d11 d12 d13 d15 d16 d21 d22 d23 d24 d25 d26 d29 d30 d31 : Nat} (h : dg_ok w d0 d4 d5 d10 d11 d12 d13 d15 d16 d21 d22 d23 d24 d25 d26 d29 d30 d31) : w.toBitVec.toNat / 2 ^ 4 % 2 ^ 1 = d4 := by
  obtain ⟨⟨b0, b4, b5, b10, b11, b12, b13, b15, b16, b21, b22, b23, b24, b25, b26, b29, b30, b31⟩, hn⟩ := h
  exact wd_cut (A := d0) (C := d4) (D := d5 + 32 * d10 + 64 * d11 + 128 * d12 + 256 * d13 + 1024 * d15 + 2048 * d16 + 65536 * d21 + 131072 * d22 + 262144 * d23 + 524288 * d24 + 1048576 * d25 + 2097152 * d26 + 16777216 * d29 + 33554432 * d30 + 67108864 * d31) (by omega) (by omega) (by omega)
theorem a1_4_4 {w : Int32} {d0 d4 d5 d10 d11 d12 d13 d15 d16 d21 d22 d23 d24 d25 d26 d29 d30 d31 : Nat} (h : dg_ok w d0 d4 d5 d10 d11 d12 d13 d15 d16 d21 d22 d23 d24 d25 d26 d29 d30 d31) : fX1_bits w (4 : Int32) (4 : Int32) = nI (d4) := (wd_b1 w _ _ 4 27 1 (by decide) (by decide) (by decide)).trans (congrArg nI (sg_4_1 h))
theorem q_32 {w : Int32} {d0 d4 d5 d10 d11 d12 d13 d15 d16 d21 d22 d23 d24 d25 d26 d29 d30 d31 : Nat} (h : dg_ok w d0 d4 d5 d10 d11 d12 d13 d15 d16 d21 d22 d23 d24 d25 d26 d29 d30 d31) : ((fX1_bits w (4 : Int32) (4 : Int32)) = 0) ↔ (d4 = 0) := by
  have h9 := h
  obtain ⟨⟨b0, b4, b5, b10, b11, b12, b13, b15, b16, b21, b22, b23, b24, b25, b26, b29, b30, b31⟩, hn⟩ := h9
  clear hn
  exact wd_e (a1_4_4 h) (by omega) 0 (by decide)
theorem sg_0_4 {w : Int32} {d0 d4 d5 d10 d11 d12 d13 d15 d16 d21 d22 d23 d24 d25 d26 d29 d30 d31 : Nat} (h : dg_ok w d0 d4 d5 d10 d11 d12 d13 d15 d16 d21 d22 d23 d24 d25 d26 d29 d30 d31) : w.toBitVec.toNat / 2 ^ 0 % 2 ^ 4 = d0 := by
  obtain ⟨⟨b0, b4, b5, b10, b11, b12, b13, b15, b16, b21, b22, b23, b24, b25, b26, b29, b30, b31⟩, hn⟩ := h
  exact wd_cut (A := 0) (C := d0) (D := d4 + 2 * d5 + 64 * d10 + 128 * d11 + 256 * d12 + 512 * d13 + 2048 * d15 + 4096 * d16 + 131072 * d21 + 262144 * d22 + 524288 * d23 + 1048576 * d24 + 2097152 * d25 + 4194304 * d26 + 33554432 * d29 + 67108864 * d30 + 134217728 * d31) (by omega) (by omega) (by omega)
theorem a1_0_3 {w : Int32} {d0 d4 d5 d10 d11 d12 d13 d15 d16 d21 d22 d23 d24 d25 d26 d29 d30 d31 : Nat} (h : dg_ok w d0 d4 d5 d10 d11 d12 d13 d15 d16 d21 d22 d23 d24 d25 d26 d29 d30 d31) : fX1_bits w (0 : Int32) (3 : Int32) = nI (d0) := (wd_b1 w _ _ 0 28 4 (by decide) (by decide) (by decide)).trans (congrArg nI (sg_0_4 h))
theorem q_33 {w : Int32} {d0 d4 d5 d10 d11 d12 d13 d15 d16 d21 d22 d23 d24 d25 d26 d29 d30 d31 : Nat} (h : dg_ok w d0 d4 d5 d10 d11 d12 d13 d15 d16 d21 d22 d23 d24 d25 d26 d29 d30 d31) : ((14 : Int32) ≤ (fX1_bits w (0 : Int32) (3 : Int32))) ↔ (14 ≤ d0) := by
  have h9 := h
  obtain ⟨⟨b0, b4, b5, b10, b11, b12, b13, b15, b16, b21, b22, b23, b24, b25, b26, b29, b30, b31⟩, hn⟩ := h9
  clear hn
  exact wd_ge (a1_0_3 h) (by omega) 14 (by decide)
theorem sg_25_6 {w : Int32} {d0 d4 d5 d10 d11 d12 d13 d15 d16 d21 d22 d23 d24 d25 d26 d29 d30 d31 : Nat} (h : dg_ok w d0 d4 d5 d10 d11 d12 d13 d15 d16 d21 d22 d23 d24 d25 d26 d29 d30 d31) : w.toBitVec.toNat / 2 ^ 25 % 2 ^ 6 = d25 + 2 * d26 + 16 * d29 + 32 * d30 := by
  obtain ⟨⟨b0, b4, b5, b10, b11, b12, b13, b15, b16, b21, b22, b23, b24, b25, b26, b29, b30, b31⟩, hn⟩ := h
  exact wd_cut (A := d0 + 16 * d4 + 32 * d5 + 1024 * d10 + 2048 * d11 + 4096 * d12 + 8192 * d13 + 32768 * d15 + 65536 * d16 + 2097152 * d21 + 4194304 * d22 + 8388608 * d23 + 16777216 * d24) (C := d25 + 2 * d26 + 16 * d29 + 32 * d30) (D := d31) (by omega) (by omega) (by omega)
theorem a1_25_30 {w : Int32} {d0 d4 d5 d10 d11 d12 d13 d15 d16 d21 d22 d23 d24 d25 d26 d29 d30 d31 : Nat} (h : dg_ok w d0 d4 d5 d10 d11 d12 d13 d15 d16 d21 d22 d23 d24 d25 d26 d29 d30 d31) : fX1_bits w (25 : Int32) (30 : Int32) = nI (d25 + 2 * d26 + 16 * d29 + 32 * d30) := (wd_b1 w _ _ 25 1 6 (by decide) (by decide) (by decide)).trans (congrArg nI (sg_25_6 h))
theorem q_34 {w : Int32} {d0 d4 d5 d10 d11 d12 d13 d15 d16 d21 d22 d23 d24 d25 d26 d29 d30 d31 : Nat} (h : dg_ok w d0 d4 d5 d10 d11 d12 d13 d15 d16 d21 d22 d23 d24 d25 d26 d29 d30 d31) : ((fX1_bits w (25 : Int32) (30 : Int32)) = (26 : Int32)) ↔ (d25 + 2 * d26 + 16 * d29 + 32 * d30 = 26) := by
  have h9 := h
  obtain ⟨⟨b0, b4, b5, b10, b11, b12, b13, b15, b16, b21, b22, b23, b24, b25, b26, b29, b30, b31⟩, hn⟩ := h9
  clear hn
  exact wd_e (a1_25_30 h) (by omega) 26 (by decide)
theorem q_35 {w : Int32} {d0 d4 d5 d10 d11 d12 d13 d15 d16 d21 d22 d23 d24 d25 d26 d29 d30 d31 : Nat} (h : dg_ok w d0 d4 d5 d10 d11 d12 d13 d15 d16 d21 d22 d23 d24 d25 d26 d29 d30 d31) : ((fX1_bits w (25 : Int32) (30 : Int32)) = (27 : Int32)) ↔ (d25 + 2 * d26 + 16 * d29 + 32 * d30 = 27) := by
  have h9 := h
  obtain ⟨⟨b0, b4, b5, b10, b11, b12, b13, b15, b16, b21, b22, b23, b24, b25, b26, b29, b30, b31⟩, hn⟩ := h9
  clear hn
  exact wd_e (a1_25_30 h) (by omega) 27 (by decide)
theorem q_36 {w : Int32} {d0 d4 d5 d10 d11 d12 d13 d15 d16 d21 d22 d23 d24 d25 d26 d29 d30 d31 : Nat} (h : dg_ok w d0 d4 d5 d10 d11 d12 d13 d15 d16 d21 d22 d23 d24 d25 d26 d29 d30 d31) : ((fX1_bits w (24 : Int32) (31 : Int32)) = (214 : Int32)) ↔ (d24 + 2 * d25 + 4 * d26 + 32 * d29 + 64 * d30 + 128 * d31 = 214) := by
  have h9 := h
  obtain ⟨⟨b0, b4, b5, b10, b11, b12, b13, b15, b16, b21, b22, b23, b24, b25, b26, b29, b30, b31⟩, hn⟩ := h9
  clear hn
  exact wd_e (a1_24_31 h) (by omega) 214 (by decide)
theorem sg_21_11 {w : Int32} {d0 d4 d5 d10 d11 d12 d13 d15 d16 d21 d22 d23 d24 d25 d26 d29 d30 d31 : Nat} (h : dg_ok w d0 d4 d5 d10 d11 d12 d13 d15 d16 d21 d22 d23 d24 d25 d26 d29 d30 d31) : w.toBitVec.toNat / 2 ^ 21 % 2 ^ 11 = d21 + 2 * d22 + 4 * d23 + 8 * d24 + 16 * d25 + 32 * d26 + 256 * d29 + 512 * d30 + 1024 * d31 := by
  obtain ⟨⟨b0, b4, b5, b10, b11, b12, b13, b15, b16, b21, b22, b23, b24, b25, b26, b29, b30, b31⟩, hn⟩ := h
  exact wd_cut (A := d0 + 16 * d4 + 32 * d5 + 1024 * d10 + 2048 * d11 + 4096 * d12 + 8192 * d13 + 32768 * d15 + 65536 * d16) (C := d21 + 2 * d22 + 4 * d23 + 8 * d24 + 16 * d25 + 32 * d26 + 256 * d29 + 512 * d30 + 1024 * d31) (D := 0) (by omega) (by omega) (by omega)
theorem a1_21_31 {w : Int32} {d0 d4 d5 d10 d11 d12 d13 d15 d16 d21 d22 d23 d24 d25 d26 d29 d30 d31 : Nat} (h : dg_ok w d0 d4 d5 d10 d11 d12 d13 d15 d16 d21 d22 d23 d24 d25 d26 d29 d30 d31) : fX1_bits w (21 : Int32) (31 : Int32) = nI (d21 + 2 * d22 + 4 * d23 + 8 * d24 + 16 * d25 + 32 * d26 + 256 * d29 + 512 * d30 + 1024 * d31) := (wd_b1 w _ _ 21 0 11 (by decide) (by decide) (by decide)).trans (congrArg nI (sg_21_11 h))
theorem q_37 {w : Int32} {d0 d4 d5 d10 d11 d12 d13 d15 d16 d21 d22 d23 d24 d25 d26 d29 d30 d31 : Nat} (h : dg_ok w d0 d4 d5 d10 d11 d12 d13 d15 d16 d21 d22 d23 d24 d25 d26 d29 d30 d31) : ((fX1_bits w (21 : Int32) (31 : Int32)) = (1696 : Int32)) ↔ (d21 + 2 * d22 + 4 * d23 + 8 * d24 + 16 * d25 + 32 * d26 + 256 * d29 + 512 * d30 + 1024 * d31 = 1696) := by
  have h9 := h
  obtain ⟨⟨b0, b4, b5, b10, b11, b12, b13, b15, b16, b21, b22, b23, b24, b25, b26, b29, b30, b31⟩, hn⟩ := h9
  clear hn
  exact wd_e (a1_21_31 h) (by omega) 1696 (by decide)
theorem q_38 {w : Int32} {d0 d4 d5 d10 d11 d12 d13 d15 d16 d21 d22 d23 d24 d25 d26 d29 d30 d31 : Nat} (h : dg_ok w d0 d4 d5 d10 d11 d12 d13 d15 d16 d21 d22 d23 d24 d25 d26 d29 d30 d31) : ((fX1_bits w (0 : Int32) (4 : Int32)) = (1 : Int32)) ↔ (d0 + 16 * d4 = 1) := by
  have h9 := h
  obtain ⟨⟨b0, b4, b5, b10, b11, b12, b13, b15, b16, b21, b22, b23, b24, b25, b26, b29, b30, b31⟩, hn⟩ := h9
  clear hn
  exact wd_e (a1_0_4 h) (by omega) 1 (by decide)
theorem q_39 {w : Int32} {d0 d4 d5 d10 d11 d12 d13 d15 d16 d21 d22 d23 d24 d25 d26 d29 d30 d31 : Nat} (h : dg_ok w d0 d4 d5 d10 d11 d12 d13 d15 d16 d21 d22 d23 d24 d25 d26 d29 d30 d31) : (w = (-721215457 : Int32)) ↔ (d0 + 16 * d4 + 32 * d5 + 1024 * d10 + 2048 * d11 + 4096 * d12 + 8192 * d13 + 32768 * d15 + 65536 * d16 + 2097152 * d21 + 4194304 * d22 + 8388608 * d23 + 16777216 * d24 + 33554432 * d25 + 67108864 * d26 + 536870912 * d29 + 1073741824 * d30 + 2147483648 * d31 = 3573751839) := by
  obtain ⟨⟨b0, b4, b5, b10, b11, b12, b13, b15, b16, b21, b22, b23, b24, b25, b26, b29, b30, b31⟩, hn⟩ := h
  rw [← hn]
  exact ⟨fun g => by rw [g]; decide, fun g => wd_inj (by rw [g]; decide)⟩
theorem q_40 {w : Int32} {d0 d4 d5 d10 d11 d12 d13 d15 d16 d21 d22 d23 d24 d25 d26 d29 d30 d31 : Nat} (h : dg_ok w d0 d4 d5 d10 d11 d12 d13 d15 d16 d21 d22 d23 d24 d25 d26 d29 d30 d31) : ((fX1_bits w (21 : Int32) (23 : Int32)) = (6 : Int32)) ↔ (d21 + 2 * d22 + 4 * d23 = 6) := by
  have h9 := h
  obtain ⟨⟨b0, b4, b5, b10, b11, b12, b13, b15, b16, b21, b22, b23, b24, b25, b26, b29, b30, b31⟩, hn⟩ := h9
  clear hn
  exact wd_e (a1_21_23 h) (by omega) 6 (by decide)
theorem q_41 {w : Int32} {d0 d4 d5 d10 d11 d12 d13 d15 d16 d21 d22 d23 d24 d25 d26 d29 d30 d31 : Nat} (h : dg_ok w d0 d4 d5 d10 d11 d12 d13 d15 d16 d21 d22 d23 d24 d25 d26 d29 d30 d31) : ((fX1_bits w (10 : Int32) (15 : Int32)) = (2 : Int32)) ↔ (d10 + 2 * d11 + 4 * d12 + 8 * d13 + 32 * d15 = 2) := by
  have h9 := h
  obtain ⟨⟨b0, b4, b5, b10, b11, b12, b13, b15, b16, b21, b22, b23, b24, b25, b26, b29, b30, b31⟩, hn⟩ := h9
  clear hn
  exact wd_e (a1_10_15 h) (by omega) 2 (by decide)
theorem q_42 {w : Int32} {d0 d4 d5 d10 d11 d12 d13 d15 d16 d21 d22 d23 d24 d25 d26 d29 d30 d31 : Nat} (h : dg_ok w d0 d4 d5 d10 d11 d12 d13 d15 d16 d21 d22 d23 d24 d25 d26 d29 d30 d31) : ((fX1_bits w (10 : Int32) (15 : Int32)) = (3 : Int32)) ↔ (d10 + 2 * d11 + 4 * d12 + 8 * d13 + 32 * d15 = 3) := by
  have h9 := h
  obtain ⟨⟨b0, b4, b5, b10, b11, b12, b13, b15, b16, b21, b22, b23, b24, b25, b26, b29, b30, b31⟩, hn⟩ := h9
  clear hn
  exact wd_e (a1_10_15 h) (by omega) 3 (by decide)
theorem q_43 {w : Int32} {d0 d4 d5 d10 d11 d12 d13 d15 d16 d21 d22 d23 d24 d25 d26 d29 d30 d31 : Nat} (h : dg_ok w d0 d4 d5 d10 d11 d12 d13 d15 d16 d21 d22 d23 d24 d25 d26 d29 d30 d31) : ((fX1_bits w (10 : Int32) (15 : Int32)) ≤ (7 : Int32)) ↔ (d10 + 2 * d11 + 4 * d12 + 8 * d13 + 32 * d15 ≤ 7) := by
  have h9 := h
  obtain ⟨⟨b0, b4, b5, b10, b11, b12, b13, b15, b16, b21, b22, b23, b24, b25, b26, b29, b30, b31⟩, hn⟩ := h9
  clear hn
  exact wd_le (a1_10_15 h) (by omega) 7 (by decide)
theorem q_44 {w : Int32} {d0 d4 d5 d10 d11 d12 d13 d15 d16 d21 d22 d23 d24 d25 d26 d29 d30 d31 : Nat} (h : dg_ok w d0 d4 d5 d10 d11 d12 d13 d15 d16 d21 d22 d23 d24 d25 d26 d29 d30 d31) : ((11 : Int32) ≤ (fX1_bits w (10 : Int32) (15 : Int32))) ↔ (11 ≤ d10 + 2 * d11 + 4 * d12 + 8 * d13 + 32 * d15) := by
  have h9 := h
  obtain ⟨⟨b0, b4, b5, b10, b11, b12, b13, b15, b16, b21, b22, b23, b24, b25, b26, b29, b30, b31⟩, hn⟩ := h9
  clear hn
  exact wd_ge (a1_10_15 h) (by omega) 11 (by decide)
theorem q_45 {w : Int32} {d0 d4 d5 d10 d11 d12 d13 d15 d16 d21 d22 d23 d24 d25 d26 d29 d30 d31 : Nat} (h : dg_ok w d0 d4 d5 d10 d11 d12 d13 d15 d16 d21 d22 d23 d24 d25 d26 d29 d30 d31) : ((fX1_bits w (21 : Int32) (23 : Int32)) = (4 : Int32)) ↔ (d21 + 2 * d22 + 4 * d23 = 4) := by
  have h9 := h
  obtain ⟨⟨b0, b4, b5, b10, b11, b12, b13, b15, b16, b21, b22, b23, b24, b25, b26, b29, b30, b31⟩, hn⟩ := h9
  clear hn
  exact wd_e (a1_21_23 h) (by omega) 4 (by decide)
theorem sg_11_1 {w : Int32} {d0 d4 d5 d10 d11 d12 d13 d15 d16 d21 d22 d23 d24 d25 d26 d29 d30 d31 : Nat} (h : dg_ok w d0 d4 d5 d10 d11 d12 d13 d15 d16 d21 d22 d23 d24 d25 d26 d29 d30 d31) : w.toBitVec.toNat / 2 ^ 11 % 2 ^ 1 = d11 := by
  obtain ⟨⟨b0, b4, b5, b10, b11, b12, b13, b15, b16, b21, b22, b23, b24, b25, b26, b29, b30, b31⟩, hn⟩ := h
  exact wd_cut (A := d0 + 16 * d4 + 32 * d5 + 1024 * d10) (C := d11) (D := d12 + 2 * d13 + 8 * d15 + 16 * d16 + 512 * d21 + 1024 * d22 + 2048 * d23 + 4096 * d24 + 8192 * d25 + 16384 * d26 + 131072 * d29 + 262144 * d30 + 524288 * d31) (by omega) (by omega) (by omega)
theorem a1_11_11 {w : Int32} {d0 d4 d5 d10 d11 d12 d13 d15 d16 d21 d22 d23 d24 d25 d26 d29 d30 d31 : Nat} (h : dg_ok w d0 d4 d5 d10 d11 d12 d13 d15 d16 d21 d22 d23 d24 d25 d26 d29 d30 d31) : fX1_bits w (11 : Int32) (11 : Int32) = nI (d11) := (wd_b1 w _ _ 11 20 1 (by decide) (by decide) (by decide)).trans (congrArg nI (sg_11_1 h))
theorem q_46 {w : Int32} {d0 d4 d5 d10 d11 d12 d13 d15 d16 d21 d22 d23 d24 d25 d26 d29 d30 d31 : Nat} (h : dg_ok w d0 d4 d5 d10 d11 d12 d13 d15 d16 d21 d22 d23 d24 d25 d26 d29 d30 d31) : ((fX1_bits w (11 : Int32) (11 : Int32)) = 0) ↔ (d11 = 0) := by
  have h9 := h
  obtain ⟨⟨b0, b4, b5, b10, b11, b12, b13, b15, b16, b21, b22, b23, b24, b25, b26, b29, b30, b31⟩, hn⟩ := h9
  clear hn
  exact wd_e (a1_11_11 h) (by omega) 0 (by decide)
theorem sg_12_4 {w : Int32} {d0 d4 d5 d10 d11 d12 d13 d15 d16 d21 d22 d23 d24 d25 d26 d29 d30 d31 : Nat} (h : dg_ok w d0 d4 d5 d10 d11 d12 d13 d15 d16 d21 d22 d23 d24 d25 d26 d29 d30 d31) : w.toBitVec.toNat / 2 ^ 12 % 2 ^ 4 = d12 + 2 * d13 + 8 * d15 := by
  obtain ⟨⟨b0, b4, b5, b10, b11, b12, b13, b15, b16, b21, b22, b23, b24, b25, b26, b29, b30, b31⟩, hn⟩ := h
  exact wd_cut (A := d0 + 16 * d4 + 32 * d5 + 1024 * d10 + 2048 * d11) (C := d12 + 2 * d13 + 8 * d15) (D := d16 + 32 * d21 + 64 * d22 + 128 * d23 + 256 * d24 + 512 * d25 + 1024 * d26 + 8192 * d29 + 16384 * d30 + 32768 * d31) (by omega) (by omega) (by omega)
theorem a1_12_15 {w : Int32} {d0 d4 d5 d10 d11 d12 d13 d15 d16 d21 d22 d23 d24 d25 d26 d29 d30 d31 : Nat} (h : dg_ok w d0 d4 d5 d10 d11 d12 d13 d15 d16 d21 d22 d23 d24 d25 d26 d29 d30 d31) : fX1_bits w (12 : Int32) (15 : Int32) = nI (d12 + 2 * d13 + 8 * d15) := (wd_b1 w _ _ 12 16 4 (by decide) (by decide) (by decide)).trans (congrArg nI (sg_12_4 h))
theorem q_47 {w : Int32} {d0 d4 d5 d10 d11 d12 d13 d15 d16 d21 d22 d23 d24 d25 d26 d29 d30 d31 : Nat} (h : dg_ok w d0 d4 d5 d10 d11 d12 d13 d15 d16 d21 d22 d23 d24 d25 d26 d29 d30 d31) : ((14 : Int32) ≤ (fX1_bits w (12 : Int32) (15 : Int32))) ↔ (14 ≤ d12 + 2 * d13 + 8 * d15) := by
  have h9 := h
  obtain ⟨⟨b0, b4, b5, b10, b11, b12, b13, b15, b16, b21, b22, b23, b24, b25, b26, b29, b30, b31⟩, hn⟩ := h9
  clear hn
  exact wd_ge (a1_12_15 h) (by omega) 14 (by decide)
theorem sg_24_5 {w : Int32} {d0 d4 d5 d10 d11 d12 d13 d15 d16 d21 d22 d23 d24 d25 d26 d29 d30 d31 : Nat} (h : dg_ok w d0 d4 d5 d10 d11 d12 d13 d15 d16 d21 d22 d23 d24 d25 d26 d29 d30 d31) : w.toBitVec.toNat / 2 ^ 24 % 2 ^ 5 = d24 + 2 * d25 + 4 * d26 := by
  obtain ⟨⟨b0, b4, b5, b10, b11, b12, b13, b15, b16, b21, b22, b23, b24, b25, b26, b29, b30, b31⟩, hn⟩ := h
  exact wd_cut (A := d0 + 16 * d4 + 32 * d5 + 1024 * d10 + 2048 * d11 + 4096 * d12 + 8192 * d13 + 32768 * d15 + 65536 * d16 + 2097152 * d21 + 4194304 * d22 + 8388608 * d23) (C := d24 + 2 * d25 + 4 * d26) (D := d29 + 2 * d30 + 4 * d31) (by omega) (by omega) (by omega)
theorem a1_24_28 {w : Int32} {d0 d4 d5 d10 d11 d12 d13 d15 d16 d21 d22 d23 d24 d25 d26 d29 d30 d31 : Nat} (h : dg_ok w d0 d4 d5 d10 d11 d12 d13 d15 d16 d21 d22 d23 d24 d25 d26 d29 d30 d31) : fX1_bits w (24 : Int32) (28 : Int32) = nI (d24 + 2 * d25 + 4 * d26) := (wd_b1 w _ _ 24 3 5 (by decide) (by decide) (by decide)).trans (congrArg nI (sg_24_5 h))
theorem q_48 {w : Int32} {d0 d4 d5 d10 d11 d12 d13 d15 d16 d21 d22 d23 d24 d25 d26 d29 d30 d31 : Nat} (h : dg_ok w d0 d4 d5 d10 d11 d12 d13 d15 d16 d21 d22 d23 d24 d25 d26 d29 d30 d31) : ((fX1_bits w (24 : Int32) (28 : Int32)) = (8 : Int32)) ↔ (d24 + 2 * d25 + 4 * d26 = 8) := by
  have h9 := h
  obtain ⟨⟨b0, b4, b5, b10, b11, b12, b13, b15, b16, b21, b22, b23, b24, b25, b26, b29, b30, b31⟩, hn⟩ := h9
  clear hn
  exact wd_e (a1_24_28 h) (by omega) 8 (by decide)
theorem sg_25_7 {w : Int32} {d0 d4 d5 d10 d11 d12 d13 d15 d16 d21 d22 d23 d24 d25 d26 d29 d30 d31 : Nat} (h : dg_ok w d0 d4 d5 d10 d11 d12 d13 d15 d16 d21 d22 d23 d24 d25 d26 d29 d30 d31) : w.toBitVec.toNat / 2 ^ 25 % 2 ^ 7 = d25 + 2 * d26 + 16 * d29 + 32 * d30 + 64 * d31 := by
  obtain ⟨⟨b0, b4, b5, b10, b11, b12, b13, b15, b16, b21, b22, b23, b24, b25, b26, b29, b30, b31⟩, hn⟩ := h
  exact wd_cut (A := d0 + 16 * d4 + 32 * d5 + 1024 * d10 + 2048 * d11 + 4096 * d12 + 8192 * d13 + 32768 * d15 + 65536 * d16 + 2097152 * d21 + 4194304 * d22 + 8388608 * d23 + 16777216 * d24) (C := d25 + 2 * d26 + 16 * d29 + 32 * d30 + 64 * d31) (D := 0) (by omega) (by omega) (by omega)
theorem a1_25_31 {w : Int32} {d0 d4 d5 d10 d11 d12 d13 d15 d16 d21 d22 d23 d24 d25 d26 d29 d30 d31 : Nat} (h : dg_ok w d0 d4 d5 d10 d11 d12 d13 d15 d16 d21 d22 d23 d24 d25 d26 d29 d30 d31) : fX1_bits w (25 : Int32) (31 : Int32) = nI (d25 + 2 * d26 + 16 * d29 + 32 * d30 + 64 * d31) := (wd_b1 w _ _ 25 0 7 (by decide) (by decide) (by decide)).trans (congrArg nI (sg_25_7 h))
theorem q_49 {w : Int32} {d0 d4 d5 d10 d11 d12 d13 d15 d16 d21 d22 d23 d24 d25 d26 d29 d30 d31 : Nat} (h : dg_ok w d0 d4 d5 d10 d11 d12 d13 d15 d16 d21 d22 d23 d24 d25 d26 d29 d30 d31) : ((fX1_bits w (25 : Int32) (31 : Int32)) = (84 : Int32)) ↔ (d25 + 2 * d26 + 16 * d29 + 32 * d30 + 64 * d31 = 84) := by
  have h9 := h
  obtain ⟨⟨b0, b4, b5, b10, b11, b12, b13, b15, b16, b21, b22, b23, b24, b25, b26, b29, b30, b31⟩, hn⟩ := h9
  clear hn
  exact wd_e (a1_25_31 h) (by omega) 84 (by decide)
theorem q_50 {w : Int32} {d0 d4 d5 d10 d11 d12 d13 d15 d16 d21 d22 d23 d24 d25 d26 d29 d30 d31 : Nat} (h : dg_ok w d0 d4 d5 d10 d11 d12 d13 d15 d16 d21 d22 d23 d24 d25 d26 d29 d30 d31) : ((fX1_bits w (24 : Int32) (28 : Int32)) = (9 : Int32)) ↔ (d24 + 2 * d25 + 4 * d26 = 9) := by
  have h9 := h
  obtain ⟨⟨b0, b4, b5, b10, b11, b12, b13, b15, b16, b21, b22, b23, b24, b25, b26, b29, b30, b31⟩, hn⟩ := h9
  clear hn
  exact wd_e (a1_24_28 h) (by omega) 9 (by decide)
theorem q_51 {w : Int32} {d0 d4 d5 d10 d11 d12 d13 d15 d16 d21 d22 d23 d24 d25 d26 d29 d30 d31 : Nat} (h : dg_ok w d0 d4 d5 d10 d11 d12 d13 d15 d16 d21 d22 d23 d24 d25 d26 d29 d30 d31) : ((fX1_bits w (24 : Int32) (28 : Int32)) = (10 : Int32)) ↔ (d24 + 2 * d25 + 4 * d26 = 10) := by
  have h9 := h
  obtain ⟨⟨b0, b4, b5, b10, b11, b12, b13, b15, b16, b21, b22, b23, b24, b25, b26, b29, b30, b31⟩, hn⟩ := h9
  clear hn
  exact wd_e (a1_24_28 h) (by omega) 10 (by decide)
theorem q_52 {w : Int32} {d0 d4 d5 d10 d11 d12 d13 d15 d16 d21 d22 d23 d24 d25 d26 d29 d30 d31 : Nat} (h : dg_ok w d0 d4 d5 d10 d11 d12 d13 d15 d16 d21 d22 d23 d24 d25 d26 d29 d30 d31) : ((fX1_bits w (24 : Int32) (28 : Int32)) = (11 : Int32)) ↔ (d24 + 2 * d25 + 4 * d26 = 11) := by
  have h9 := h
  obtain ⟨⟨b0, b4, b5, b10, b11, b12, b13, b15, b16, b21, b22, b23, b24, b25, b26, b29, b30, b31⟩, hn⟩ := h9
  clear hn
  exact wd_e (a1_24_28 h) (by omega) 11 (by decide)
theorem q_53 {w : Int32} {d0 d4 d5 d10 d11 d12 d13 d15 d16 d21 d22 d23 d24 d25 d26 d29 d30 d31 : Nat} (h : dg_ok w d0 d4 d5 d10 d11 d12 d13 d15 d16 d21 d22 d23 d24 d25 d26 d29 d30 d31) : ((fX1_bits w (21 : Int32) (21 : Int32)) = 0) ↔ (d21 = 0) := by
  have h9 := h
  obtain ⟨⟨b0, b4, b5, b10, b11, b12, b13, b15, b16, b21, b22, b23, b24, b25, b26, b29, b30, b31⟩, hn⟩ := h9
  clear hn
  exact wd_e (a1_21_21 h) (by omega) 0 (by decide)
theorem q_54 {w : Int32} {d0 d4 d5 d10 d11 d12 d13 d15 d16 d21 d22 d23 d24 d25 d26 d29 d30 d31 : Nat} (h : dg_ok w d0 d4 d5 d10 d11 d12 d13 d15 d16 d21 d22 d23 d24 d25 d26 d29 d30 d31) : ((fX1_bits w (22 : Int32) (23 : Int32)) = (3 : Int32)) ↔ (d22 + 2 * d23 = 3) := by
  have h9 := h
  obtain ⟨⟨b0, b4, b5, b10, b11, b12, b13, b15, b16, b21, b22, b23, b24, b25, b26, b29, b30, b31⟩, hn⟩ := h9
  clear hn
  exact wd_e (a1_22_23 h) (by omega) 3 (by decide)
theorem q_55 {w : Int32} {d0 d4 d5 d10 d11 d12 d13 d15 d16 d21 d22 d23 d24 d25 d26 d29 d30 d31 : Nat} (h : dg_ok w d0 d4 d5 d10 d11 d12 d13 d15 d16 d21 d22 d23 d24 d25 d26 d29 d30 d31) : ((fX1_bits w (24 : Int32) (28 : Int32)) = (16 : Int32)) ↔ (d24 + 2 * d25 + 4 * d26 = 16) := by
  have h9 := h
  obtain ⟨⟨b0, b4, b5, b10, b11, b12, b13, b15, b16, b21, b22, b23, b24, b25, b26, b29, b30, b31⟩, hn⟩ := h9
  clear hn
  exact wd_e (a1_24_28 h) (by omega) 16 (by decide)
theorem q_56 {w : Int32} {d0 d4 d5 d10 d11 d12 d13 d15 d16 d21 d22 d23 d24 d25 d26 d29 d30 d31 : Nat} (h : dg_ok w d0 d4 d5 d10 d11 d12 d13 d15 d16 d21 d22 d23 d24 d25 d26 d29 d30 d31) : ((fX1_bits w (24 : Int32) (28 : Int32)) = (17 : Int32)) ↔ (d24 + 2 * d25 + 4 * d26 = 17) := by
  have h9 := h
  obtain ⟨⟨b0, b4, b5, b10, b11, b12, b13, b15, b16, b21, b22, b23, b24, b25, b26, b29, b30, b31⟩, hn⟩ := h9
  clear hn
  exact wd_e (a1_24_28 h) (by omega) 17 (by decide)
theorem sg_23_1 {w : Int32} {d0 d4 d5 d10 d11 d12 d13 d15 d16 d21 d22 d23 d24 d25 d26 d29 d30 d31 : Nat} (h : dg_ok w d0 d4 d5 d10 d11 d12 d13 d15 d16 d21 d22 d23 d24 d25 d26 d29 d30 d31) : w.toBitVec.toNat / 2 ^ 23 % 2 ^ 1 = d23 := by
  obtain ⟨⟨b0, b4, b5, b10, b11, b12, b13, b15, b16, b21, b22, b23, b24, b25, b26, b29, b30, b31⟩, hn⟩ := h
  exact wd_cut (A := d0 + 16 * d4 + 32 * d5 + 1024 * d10 + 2048 * d11 + 4096 * d12 + 8192 * d13 + 32768 * d15 + 65536 * d16 + 2097152 * d21 + 4194304 * d22) (C := d23) (D := d24 + 2 * d25 + 4 * d26 + 32 * d29 + 64 * d30 + 128 * d31) (by omega) (by omega) (by omega)
theorem a1_23_23 {w : Int32} {d0 d4 d5 d10 d11 d12 d13 d15 d16 d21 d22 d23 d24 d25 d26 d29 d30 d31 : Nat} (h : dg_ok w d0 d4 d5 d10 d11 d12 d13 d15 d16 d21 d22 d23 d24 d25 d26 d29 d30 d31) : fX1_bits w (23 : Int32) (23 : Int32) = nI (d23) := (wd_b1 w _ _ 23 8 1 (by decide) (by decide) (by decide)).trans (congrArg nI (sg_23_1 h))
theorem q_57 {w : Int32} {d0 d4 d5 d10 d11 d12 d13 d15 d16 d21 d22 d23 d24 d25 d26 d29 d30 d31 : Nat} (h : dg_ok w d0 d4 d5 d10 d11 d12 d13 d15 d16 d21 d22 d23 d24 d25 d26 d29 d30 d31) : ((fX1_bits w (23 : Int32) (23 : Int32)) = 0) ↔ (d23 = 0) := by
  have h9 := h
  obtain ⟨⟨b0, b4, b5, b10, b11, b12, b13, b15, b16, b21, b22, b23, b24, b25, b26, b29, b30, b31⟩, hn⟩ := h9
  clear hn
  exact wd_e (a1_23_23 h) (by omega) 0 (by decide)
theorem q_58 {w : Int32} {d0 d4 d5 d10 d11 d12 d13 d15 d16 d21 d22 d23 d24 d25 d26 d29 d30 d31 : Nat} (h : dg_ok w d0 d4 d5 d10 d11 d12 d13 d15 d16 d21 d22 d23 d24 d25 d26 d29 d30 d31) : ((fX1_bits w (24 : Int32) (28 : Int32)) = (18 : Int32)) ↔ (d24 + 2 * d25 + 4 * d26 = 18) := by
  have h9 := h
  obtain ⟨⟨b0, b4, b5, b10, b11, b12, b13, b15, b16, b21, b22, b23, b24, b25, b26, b29, b30, b31⟩, hn⟩ := h9
  clear hn
  exact wd_e (a1_24_28 h) (by omega) 18 (by decide)
theorem q_59 {w : Int32} {d0 d4 d5 d10 d11 d12 d13 d15 d16 d21 d22 d23 d24 d25 d26 d29 d30 d31 : Nat} (h : dg_ok w d0 d4 d5 d10 d11 d12 d13 d15 d16 d21 d22 d23 d24 d25 d26 d29 d30 d31) : ((fX1_bits w (23 : Int32) (23 : Int32)) = (1 : Int32)) ↔ (d23 = 1) := by
  have h9 := h
  obtain ⟨⟨b0, b4, b5, b10, b11, b12, b13, b15, b16, b21, b22, b23, b24, b25, b26, b29, b30, b31⟩, hn⟩ := h9
  clear hn
  exact wd_e (a1_23_23 h) (by omega) 1 (by decide)
theorem sg_29_2 {w : Int32} {d0 d4 d5 d10 d11 d12 d13 d15 d16 d21 d22 d23 d24 d25 d26 d29 d30 d31 : Nat} (h : dg_ok w d0 d4 d5 d10 d11 d12 d13 d15 d16 d21 d22 d23 d24 d25 d26 d29 d30 d31) : w.toBitVec.toNat / 2 ^ 29 % 2 ^ 2 = d29 + 2 * d30 := by
  obtain ⟨⟨b0, b4, b5, b10, b11, b12, b13, b15, b16, b21, b22, b23, b24, b25, b26, b29, b30, b31⟩, hn⟩ := h
  exact wd_cut (A := d0 + 16 * d4 + 32 * d5 + 1024 * d10 + 2048 * d11 + 4096 * d12 + 8192 * d13 + 32768 * d15 + 65536 * d16 + 2097152 * d21 + 4194304 * d22 + 8388608 * d23 + 16777216 * d24 + 33554432 * d25 + 67108864 * d26) (C := d29 + 2 * d30) (D := d31) (by omega) (by omega) (by omega)
theorem a1_29_30 {w : Int32} {d0 d4 d5 d10 d11 d12 d13 d15 d16 d21 d22 d23 d24 d25 d26 d29 d30 d31 : Nat} (h : dg_ok w d0 d4 d5 d10 d11 d12 d13 d15 d16 d21 d22 d23 d24 d25 d26 d29 d30 d31) : fX1_bits w (29 : Int32) (30 : Int32) = nI (d29 + 2 * d30) := (wd_b1 w _ _ 29 1 2 (by decide) (by decide) (by decide)).trans (congrArg nI (sg_29_2 h))
theorem q_60 {w : Int32} {d0 d4 d5 d10 d11 d12 d13 d15 d16 d21 d22 d23 d24 d25 d26 d29 d30 d31 : Nat} (h : dg_ok w d0 d4 d5 d10 d11 d12 d13 d15 d16 d21 d22 d23 d24 d25 d26 d29 d30 d31) : ((fX1_bits w (29 : Int32) (30 : Int32)) = (1 : Int32)) ↔ (d29 + 2 * d30 = 1) := by
  have h9 := h
  obtain ⟨⟨b0, b4, b5, b10, b11, b12, b13, b15, b16, b21, b22, b23, b24, b25, b26, b29, b30, b31⟩, hn⟩ := h9
  clear hn
  exact wd_e (a1_29_30 h) (by omega) 1 (by decide)
theorem q_61 {w : Int32} {d0 d4 d5 d10 d11 d12 d13 d15 d16 d21 d22 d23 d24 d25 d26 d29 d30 d31 : Nat} (h : dg_ok w d0 d4 d5 d10 d11 d12 d13 d15 d16 d21 d22 d23 d24 d25 d26 d29 d30 d31) : ((fX1_bits w (24 : Int32) (28 : Int32)) = (24 : Int32)) ↔ (d24 + 2 * d25 + 4 * d26 = 24) := by
  have h9 := h
  obtain ⟨⟨b0, b4, b5, b10, b11, b12, b13, b15, b16, b21, b22, b23, b24, b25, b26, b29, b30, b31⟩, hn⟩ := h9
  clear hn
  exact wd_e (a1_24_28 h) (by omega) 24 (by decide)
theorem sg_29_1 {w : Int32} {d0 d4 d5 d10 d11 d12 d13 d15 d16 d21 d22 d23 d24 d25 d26 d29 d30 d31 : Nat} (h : dg_ok w d0 d4 d5 d10 d11 d12 d13 d15 d16 d21 d22 d23 d24 d25 d26 d29 d30 d31) : w.toBitVec.toNat / 2 ^ 29 % 2 ^ 1 = d29 := by
  obtain ⟨⟨b0, b4, b5, b10, b11, b12, b13, b15, b16, b21, b22, b23, b24, b25, b26, b29, b30, b31⟩, hn⟩ := h
  exact wd_cut (A := d0 + 16 * d4 + 32 * d5 + 1024 * d10 + 2048 * d11 + 4096 * d12 + 8192 * d13 + 32768 * d15 + 65536 * d16 + 2097152 * d21 + 4194304 * d22 + 8388608 * d23 + 16777216 * d24 + 33554432 * d25 + 67108864 * d26) (C := d29) (D := d30 + 2 * d31) (by omega) (by omega) (by omega)
theorem a1_29_29 {w : Int32} {d0 d4 d5 d10 d11 d12 d13 d15 d16 d21 d22 d23 d24 d25 d26 d29 d30 d31 : Nat} (h : dg_ok w d0 d4 d5 d10 d11 d12 d13 d15 d16 d21 d22 d23 d24 d25 d26 d29 d30 d31) : fX1_bits w (29 : Int32) (29 : Int32) = nI (d29) := (wd_b1 w _ _ 29 2 1 (by decide) (by decide) (by decide)).trans (congrArg nI (sg_29_1 h))
theorem q_62 {w : Int32} {d0 d4 d5 d10 d11 d12 d13 d15 d16 d21 d22 d23 d24 d25 d26 d29 d30 d31 : Nat} (h : dg_ok w d0 d4 d5 d10 d11 d12 d13 d15 d16 d21 d22 d23 d24 d25 d26 d29 d30 d31) : ((fX1_bits w (29 : Int32) (29 : Int32)) = (1 : Int32)) ↔ (d29 = 1) := by
  have h9 := h
  obtain ⟨⟨b0, b4, b5, b10, b11, b12, b13, b15, b16, b21, b22, b23, b24, b25, b26, b29, b30, b31⟩, hn⟩ := h9
  clear hn
  exact wd_e (a1_29_29 h) (by omega) 1 (by decide)
theorem q_63 {w : Int32} {d0 d4 d5 d10 d11 d12 d13 d15 d16 d21 d22 d23 d24 d25 d26 d29 d30 d31 : Nat} (h : dg_ok w d0 d4 d5 d10 d11 d12 d13 d15 d16 d21 d22 d23 d24 d25 d26 d29 d30 d31) : ((fX1_bits w (24 : Int32) (28 : Int32)) = (25 : Int32)) ↔ (d24 + 2 * d25 + 4 * d26 = 25) := by
  have h9 := h
  obtain ⟨⟨b0, b4, b5, b10, b11, b12, b13, b15, b16, b21, b22, b23, b24, b25, b26, b29, b30, b31⟩, hn⟩ := h9
  clear hn
  exact wd_e (a1_24_28 h) (by omega) 25 (by decide)
theorem q_64 {w : Int32} {d0 d4 d5 d10 d11 d12 d13 d15 d16 d21 d22 d23 d24 d25 d26 d29 d30 d31 : Nat} (h : dg_ok w d0 d4 d5 d10 d11 d12 d13 d15 d16 d21 d22 d23 d24 d25 d26 d29 d30 d31) : ((fX1_bits w (24 : Int32) (28 : Int32)) = (26 : Int32)) ↔ (d24 + 2 * d25 + 4 * d26 = 26) := by
  have h9 := h
  obtain ⟨⟨b0, b4, b5, b10, b11, b12, b13, b15, b16, b21, b22, b23, b24, b25, b26, b29, b30, b31⟩, hn⟩ := h9
  clear hn
  exact wd_e (a1_24_28 h) (by omega) 26 (by decide)
theorem q_65 {w : Int32} {d0 d4 d5 d10 d11 d12 d13 d15 d16 d21 d22 d23 d24 d25 d26 d29 d30 d31 : Nat} (h : dg_ok w d0 d4 d5 d10 d11 d12 d13 d15 d16 d21 d22 d23 d24 d25 d26 d29 d30 d31) : ((fX1_bits w (29 : Int32) (30 : Int32)) ≤ 0) ↔ (d29 + 2 * d30 ≤ 0) := by
  have h9 := h
  obtain ⟨⟨b0, b4, b5, b10, b11, b12, b13, b15, b16, b21, b22, b23, b24, b25, b26, b29, b30, b31⟩, hn⟩ := h9
  clear hn
  exact wd_le (a1_29_30 h) (by omega) 0 (by decide)
theorem q_66 {w : Int32} {d0 d4 d5 d10 d11 d12 d13 d15 d16 d21 d22 d23 d24 d25 d26 d29 d30 d31 : Nat} (h : dg_ok w d0 d4 d5 d10 d11 d12 d13 d15 d16 d21 d22 d23 d24 d25 d26 d29 d30 d31) : ((fX1_bits w (24 : Int32) (28 : Int32)) = (27 : Int32)) ↔ (d24 + 2 * d25 + 4 * d26 = 27) := by
  have h9 := h
  obtain ⟨⟨b0, b4, b5, b10, b11, b12, b13, b15, b16, b21, b22, b23, b24, b25, b26, b29, b30, b31⟩, hn⟩ := h9
  clear hn
  exact wd_e (a1_24_28 h) (by omega) 27 (by decide)
theorem q_67 {w : Int32} {d0 d4 d5 d10 d11 d12 d13 d15 d16 d21 d22 d23 d24 d25 d26 d29 d30 d31 : Nat} (h : dg_ok w d0 d4 d5 d10 d11 d12 d13 d15 d16 d21 d22 d23 d24 d25 d26 d29 d30 d31) : ((fX1_bits w (21 : Int32) (23 : Int32)) = 0) ↔ (d21 + 2 * d22 + 4 * d23 = 0) := by
  have h9 := h
  obtain ⟨⟨b0, b4, b5, b10, b11, b12, b13, b15, b16, b21, b22, b23, b24, b25, b26, b29, b30, b31⟩, hn⟩ := h9
  clear hn
  exact wd_e (a1_21_23 h) (by omega) 0 (by decide)
theorem q_68 {w : Int32} {d0 d4 d5 d10 d11 d12 d13 d15 d16 d21 d22 d23 d24 d25 d26 d29 d30 d31 : Nat} (h : dg_ok w d0 d4 d5 d10 d11 d12 d13 d15 d16 d21 d22 d23 d24 d25 d26 d29 d30 d31) : ((fX1_bits w (29 : Int32) (30 : Int32)) = 0) ↔ (d29 + 2 * d30 = 0) := by
  have h9 := h
  obtain ⟨⟨b0, b4, b5, b10, b11, b12, b13, b15, b16, b21, b22, b23, b24, b25, b26, b29, b30, b31⟩, hn⟩ := h9
  clear hn
  exact wd_e (a1_29_30 h) (by omega) 0 (by decide)
theorem sg_23_6 {w : Int32} {d0 d4 d5 d10 d11 d12 d13 d15 d16 d21 d22 d23 d24 d25 d26 d29 d30 d31 : Nat} (h : dg_ok w d0 d4 d5 d10 d11 d12 d13 d15 d16 d21 d22 d23 d24 d25 d26 d29 d30 d31) : w.toBitVec.toNat / 2 ^ 23 % 2 ^ 6 = d23 + 2 * d24 + 4 * d25 + 8 * d26 := by
  obtain ⟨⟨b0, b4, b5, b10, b11, b12, b13, b15, b16, b21, b22, b23, b24, b25, b26, b29, b30, b31⟩, hn⟩ := h
  exact wd_cut (A := d0 + 16 * d4 + 32 * d5 + 1024 * d10 + 2048 * d11 + 4096 * d12 + 8192 * d13 + 32768 * d15 + 65536 * d16 + 2097152 * d21 + 4194304 * d22) (C := d23 + 2 * d24 + 4 * d25 + 8 * d26) (D := d29 + 2 * d30 + 4 * d31) (by omega) (by omega) (by omega)
theorem q_69 {w : Int32} {d0 d4 d5 d10 d11 d12 d13 d15 d16 d21 d22 d23 d24 d25 d26 d29 d30 d31 : Nat} (h : dg_ok w d0 d4 d5 d10 d11 d12 d13 d15 d16 d21 d22 d23 d24 d25 d26 d29 d30 d31) : ((w &&& (528482304 : Int32)) = (285212672 : Int32)) ↔ (d23 + 2 * d24 + 4 * d25 + 8 * d26 = 34) :=
  (wd_mk 23 6 34 (by decide) (by decide)).trans (by rw [sg_23_6 h])
theorem q_70 {w : Int32} {d0 d4 d5 d10 d11 d12 d13 d15 d16 d21 d22 d23 d24 d25 d26 d29 d30 d31 : Nat} (h : dg_ok w d0 d4 d5 d10 d11 d12 d13 d15 d16 d21 d22 d23 d24 d25 d26 d29 d30 d31) : ((w &&& (522190848 : Int32)) = (184549376 : Int32)) ↔ (d24 + 2 * d25 + 4 * d26 = 11 ∧ d21 = 0) :=
  (wd_mk2 (520093696) (2097152) (184549376) (0) (by decide) (by decide) (by decide) (by decide) (by decide)).trans (and_congr ((wd_mk 24 5 11 (by decide) (by decide)).trans (by rw [sg_24_5 h])) ((wd_mk 21 1 0 (by decide) (by decide)).trans (by rw [sg_21_1 h])))
theorem q_71 {w : Int32} {d0 d4 d5 d10 d11 d12 d13 d15 d16 d21 d22 d23 d24 d25 d26 d29 d30 d31 : Nat} (h : dg_ok w d0 d4 d5 d10 d11 d12 d13 d15 d16 d21 d22 d23 d24 d25 d26 d29 d30 d31) : ((w &&& (520093696 : Int32)) = (167772160 : Int32)) ↔ (d24 + 2 * d25 + 4 * d26 = 10) :=
  (wd_mk 24 5 10 (by decide) (by decide)).trans (by rw [sg_24_5 h])
theorem q_72 {w : Int32} {d0 d4 d5 d10 d11 d12 d13 d15 d16 d21 d22 d23 d24 d25 d26 d29 d30 d31 : Nat} (h : dg_ok w d0 d4 d5 d10 d11 d12 d13 d15 d16 d21 d22 d23 d24 d25 d26 d29 d30 d31) : ((w &&& (528482304 : Int32)) = (310378496 : Int32)) ↔ (d23 + 2 * d24 + 4 * d25 + 8 * d26 = 37) :=
  (wd_mk 23 6 37 (by decide) (by decide)).trans (by rw [sg_23_6 h])
theorem sg_31_1 {w : Int32} {d0 d4 d5 d10 d11 d12 d13 d15 d16 d21 d22 d23 d24 d25 d26 d29 d30 d31 : Nat} (h : dg_ok w d0 d4 d5 d10 d11 d12 d13 d15 d16 d21 d22 d23 d24 d25 d26 d29 d30 d31) : w.toBitVec.toNat / 2 ^ 31 % 2 ^ 1 = d31 := by
  obtain ⟨⟨b0, b4, b5, b10, b11, b12, b13, b15, b16, b21, b22, b23, b24, b25, b26, b29, b30, b31⟩, hn⟩ := h
  exact wd_cut (A := d0 + 16 * d4 + 32 * d5 + 1024 * d10 + 2048 * d11 + 4096 * d12 + 8192 * d13 + 32768 * d15 + 65536 * d16 + 2097152 * d21 + 4194304 * d22 + 8388608 * d23 + 16777216 * d24 + 33554432 * d25 + 67108864 * d26 + 536870912 * d29 + 1073741824 * d30) (C := d31) (D := 0) (by omega) (by omega) (by omega)
theorem q_73 {w : Int32} {d0 d4 d5 d10 d11 d12 d13 d15 d16 d21 d22 d23 d24 d25 d26 d29 d30 d31 : Nat} (h : dg_ok w d0 d4 d5 d10 d11 d12 d13 d15 d16 d21 d22 d23 d24 d25 d26 d29 d30 d31) : ((w &&& (-1627389952 : Int32)) = (-1879048192 : Int32)) ↔ (d31 = 1 ∧ d24 + 2 * d25 + 4 * d26 = 16) :=
  (wd_mk2 (-2147483648) (520093696) (-2147483648) (268435456) (by decide) (by decide) (by decide) (by decide) (by decide)).trans (and_congr ((wd_mk 31 1 1 (by decide) (by decide)).trans (by rw [sg_31_1 h])) ((wd_mk 24 5 16 (by decide) (by decide)).trans (by rw [sg_24_5 h])))
theorem sg_21_10 {w : Int32} {d0 d4 d5 d10 d11 d12 d13 d15 d16 d21 d22 d23 d24 d25 d26 d29 d30 d31 : Nat} (h : dg_ok w d0 d4 d5 d10 d11 d12 d13 d15 d16 d21 d22 d23 d24 d25 d26 d29 d30 d31) : w.toBitVec.toNat / 2 ^ 21 % 2 ^ 10 = d21 + 2 * d22 + 4 * d23 + 8 * d24 + 16 * d25 + 32 * d26 + 256 * d29 + 512 * d30 := by
  obtain ⟨⟨b0, b4, b5, b10, b11, b12, b13, b15, b16, b21, b22, b23, b24, b25, b26, b29, b30, b31⟩, hn⟩ := h
  exact wd_cut (A := d0 + 16 * d4 + 32 * d5 + 1024 * d10 + 2048 * d11 + 4096 * d12 + 8192 * d13 + 32768 * d15 + 65536 * d16) (C := d21 + 2 * d22 + 4 * d23 + 8 * d24 + 16 * d25 + 32 * d26 + 256 * d29 + 512 * d30) (D := d31) (by omega) (by omega) (by omega)
theorem q_74 {w : Int32} {d0 d4 d5 d10 d11 d12 d13 d15 d16 d21 d22 d23 d24 d25 d26 d29 d30 d31 : Nat} (h : dg_ok w d0 d4 d5 d10 d11 d12 d13 d15 d16 d21 d22 d23 d24 d25 d26 d29 d30 d31) : ((w &&& (2145386496 : Int32)) = (452984832 : Int32)) ↔ (d21 + 2 * d22 + 4 * d23 + 8 * d24 + 16 * d25 + 32 * d26 + 256 * d29 + 512 * d30 = 216) :=
  (wd_mk 21 10 216 (by decide) (by decide)).trans (by rw [sg_21_10 h])
theorem q_75 {w : Int32} {d0 d4 d5 d10 d11 d12 d13 d15 d16 d21 d22 d23 d24 d25 d26 d29 d30 d31 : Nat} (h : dg_ok w d0 d4 d5 d10 d11 d12 d13 d15 d16 d21 d22 d23 d24 d25 d26 d29 d30 d31) : ((w &&& (2145386496 : Int32)) = (448790528 : Int32)) ↔ (d21 + 2 * d22 + 4 * d23 + 8 * d24 + 16 * d25 + 32 * d26 + 256 * d29 + 512 * d30 = 214) :=
  (wd_mk 21 10 214 (by decide) (by decide)).trans (by rw [sg_21_10 h])
theorem q_76 {w : Int32} {d0 d4 d5 d10 d11 d12 d13 d15 d16 d21 d22 d23 d24 d25 d26 d29 d30 d31 : Nat} (h : dg_ok w d0 d4 d5 d10 d11 d12 d13 d15 d16 d21 d22 d23 d24 d25 d26 d29 d30 d31) : ((w &&& (2145388544 : Int32)) = (444596224 : Int32)) ↔ (d21 + 2 * d22 + 4 * d23 + 8 * d24 + 16 * d25 + 32 * d26 + 256 * d29 + 512 * d30 = 212 ∧ d11 = 0) :=
  (wd_mk2 (2145386496) (2048) (444596224) (0) (by decide) (by decide) (by decide) (by decide) (by decide)).trans (and_congr ((wd_mk 21 10 212 (by decide) (by decide)).trans (by rw [sg_21_10 h])) ((wd_mk 11 1 0 (by decide) (by decide)).trans (by rw [sg_11_1 h])))
theorem sg_24_6 {w : Int32} {d0 d4 d5 d10 d11 d12 d13 d15 d16 d21 d22 d23 d24 d25 d26 d29 d30 d31 : Nat} (h : dg_ok w d0 d4 d5 d10 d11 d12 d13 d15 d16 d21 d22 d23 d24 d25 d26 d29 d30 d31) : w.toBitVec.toNat / 2 ^ 24 % 2 ^ 6 = d24 + 2 * d25 + 4 * d26 + 32 * d29 := by
  obtain ⟨⟨b0, b4, b5, b10, b11, b12, b13, b15, b16, b21, b22, b23, b24, b25, b26, b29, b30, b31⟩, hn⟩ := h
  exact wd_cut (A := d0 + 16 * d4 + 32 * d5 + 1024 * d10 + 2048 * d11 + 4096 * d12 + 8192 * d13 + 32768 * d15 + 65536 * d16 + 2097152 * d21 + 4194304 * d22 + 8388608 * d23) (C := d24 + 2 * d25 + 4 * d26 + 32 * d29) (D := d30 + 2 * d31) (by omega) (by omega) (by omega)
theorem q_77 {w : Int32} {d0 d4 d5 d10 d11 d12 d13 d15 d16 d21 d22 d23 d24 d25 d26 d29 d30 d31 : Nat} (h : dg_ok w d0 d4 d5 d10 d11 d12 d13 d15 d16 d21 d22 d23 d24 d25 d26 d29 d30 d31) : ((w &&& (1056964608 : Int32)) = (956301312 : Int32)) ↔ (d24 + 2 * d25 + 4 * d26 + 32 * d29 = 57) :=
  (wd_mk 24 6 57 (by decide) (by decide)).trans (by rw [sg_24_6 h])
theorem q_78 {w : Int32} {d0 d4 d5 d10 d11 d12 d13 d15 d16 d21 d22 d23 d24 d25 d26 d29 d30 d31 : Nat} (h : dg_ok w d0 d4 d5 d10 d11 d12 d13 d15 d16 d21 d22 d23 d24 d25 d26 d29 d30 d31) : ((w &&& (1059122176 : Int32)) = (941647872 : Int32)) ↔ (d24 + 2 * d25 + 4 * d26 + 32 * d29 = 56 ∧ d21 = 1 ∧ d13 + 4 * d15 = 3 ∧ d10 + 2 * d11 = 2) :=
  (wd_mk2 (1056964608) (2157568) (939524096) (2123776) (by decide) (by decide) (by decide) (by decide) (by decide)).trans (and_congr ((wd_mk 24 6 56 (by decide) (by decide)).trans (by rw [sg_24_6 h])) ((wd_mk2 (2097152) (60416) (2097152) (26624) (by decide) (by decide) (by decide) (by decide) (by decide)).trans (and_congr ((wd_mk 21 1 1 (by decide) (by decide)).trans (by rw [sg_21_1 h])) ((wd_mk2 (57344) (3072) (24576) (2048) (by decide) (by decide) (by decide) (by decide) (by decide)).trans (and_congr ((wd_mk 13 3 3 (by decide) (by decide)).trans (by rw [sg_13_3 h])) ((wd_mk 10 2 2 (by decide) (by decide)).trans (by rw [sg_10_2 h])))))))
theorem q_79 {w : Int32} {d0 d4 d5 d10 d11 d12 d13 d15 d16 d21 d22 d23 d24 d25 d26 d29 d30 d31 : Nat} (h : dg_ok w d0 d4 d5 d10 d11 d12 d13 d15 d16 d21 d22 d23 d24 d25 d26 d29 d30 d31) : ((w &&& (-33554432 : Int32)) = (-1476395008 : Int32)) ↔ (d25 + 2 * d26 + 16 * d29 + 32 * d30 + 64 * d31 = 84) :=
  (wd_mk 25 7 84 (by decide) (by decide)).trans (by rw [sg_25_7 h])
theorem q_80 {w : Int32} {d0 d4 d5 d10 d11 d12 d13 d15 d16 d21 d22 d23 d24 d25 d26 d29 d30 d31 : Nat} (h : dg_ok w d0 d4 d5 d10 d11 d12 d13 d15 d16 d21 d22 d23 d24 d25 d26 d29 d30 d31) : ((w &&& (-67108864 : Int32)) = (335544320 : Int32)) ↔ (d26 + 8 * d29 + 16 * d30 + 32 * d31 = 5) :=
  (wd_mk 26 6 5 (by decide) (by decide)).trans (by rw [sg_26_6 h])
theorem q_81 {w : Int32} {d0 d4 d5 d10 d11 d12 d13 d15 d16 d21 d22 d23 d24 d25 d26 d29 d30 d31 : Nat} (h : dg_ok w d0 d4 d5 d10 d11 d12 d13 d15 d16 d21 d22 d23 d24 d25 d26 d29 d30 d31) : ((w &&& (-67108864 : Int32)) = (-1811939328 : Int32)) ↔ (d26 + 8 * d29 + 16 * d30 + 32 * d31 = 37) :=
  (wd_mk 26 6 37 (by decide) (by decide)).trans (by rw [sg_26_6 h])
theorem q_82 {w : Int32} {d0 d4 d5 d10 d11 d12 d13 d15 d16 d21 d22 d23 d24 d25 d26 d29 d30 d31 : Nat} (h : dg_ok w d0 d4 d5 d10 d11 d12 d13 d15 d16 d21 d22 d23 d24 d25 d26 d29 d30 d31) : ((w &&& (-16777200 : Int32)) = (1409286144 : Int32)) ↔ (d24 + 2 * d25 + 4 * d26 + 32 * d29 + 64 * d30 + 128 * d31 = 84 ∧ d4 = 0) :=
  (wd_mk2 (-16777216) (16) (1409286144) (0) (by decide) (by decide) (by decide) (by decide) (by decide)).trans (and_congr ((wd_mk 24 8 84 (by decide) (by decide)).trans (by rw [sg_24_8 h])) ((wd_mk 4 1 0 (by decide) (by decide)).trans (by rw [sg_4_1 h])))
theorem q_83 {w : Int32} {d0 d4 d5 d10 d11 d12 d13 d15 d16 d21 d22 d23 d24 d25 d26 d29 d30 d31 : Nat} (h : dg_ok w d0 d4 d5 d10 d11 d12 d13 d15 d16 d21 d22 d23 d24 d25 d26 d29 d30 d31) : ((w &&& (2113929216 : Int32)) = (872415232 : Int32)) ↔ (d25 + 2 * d26 + 16 * d29 + 32 * d30 = 26) :=
  (wd_mk 25 6 26 (by decide) (by decide)).trans (by rw [sg_25_6 h])
theorem q_84 {w : Int32} {d0 d4 d5 d10 d11 d12 d13 d15 d16 d21 d22 d23 d24 d25 d26 d29 d30 d31 : Nat} (h : dg_ok w d0 d4 d5 d10 d11 d12 d13 d15 d16 d21 d22 d23 d24 d25 d26 d29 d30 d31) : ((w &&& (2113929216 : Int32)) = (905969664 : Int32)) ↔ (d25 + 2 * d26 + 16 * d29 + 32 * d30 = 27) :=
  (wd_mk 25 6 27 (by decide) (by decide)).trans (by rw [sg_25_6 h])
theorem sg_10_22 {w : Int32} {d0 d4 d5 d10 d11 d12 d13 d15 d16 d21 d22 d23 d24 d25 d26 d29 d30 d31 : Nat} (h : dg_ok w d0 d4 d5 d10 d11 d12 d13 d15 d16 d21 d22 d23 d24 d25 d26 d29 d30 d31) : w.toBitVec.toNat / 2 ^ 10 % 2 ^ 22 = d10 + 2 * d11 + 4 * d12 + 8 * d13 + 32 * d15 + 64 * d16 + 2048 * d21 + 4096 * d22 + 8192 * d23 + 16384 * d24 + 32768 * d25 + 65536 * d26 + 524288 * d29 + 1048576 * d30 + 2097152 * d31 := by
  obtain ⟨⟨b0, b4, b5, b10, b11, b12, b13, b15, b16, b21, b22, b23, b24, b25, b26, b29, b30, b31⟩, hn⟩ := h
  exact wd_cut (A := d0 + 16 * d4 + 32 * d5) (C := d10 + 2 * d11 + 4 * d12 + 8 * d13 + 32 * d15 + 64 * d16 + 2048 * d21 + 4096 * d22 + 8192 * d23 + 16384 * d24 + 32768 * d25 + 65536 * d26 + 524288 * d29 + 1048576 * d30 + 2097152 * d31) (D := 0) (by omega) (by omega) (by omega)
theorem q_85 {w : Int32} {d0 d4 d5 d10 d11 d12 d13 d15 d16 d21 d22 d23 d24 d25 d26 d29 d30 d31 : Nat} (h : dg_ok w d0 d4 d5 d10 d11 d12 d13 d15 d16 d21 d22 d23 d24 d25 d26 d29 d30 d31) : ((w &&& (-993 : Int32)) = (-702611456 : Int32)) ↔ (d10 + 2 * d11 + 4 * d12 + 8 * d13 + 32 * d15 + 64 * d16 + 2048 * d21 + 4096 * d22 + 8192 * d23 + 16384 * d24 + 32768 * d25 + 65536 * d26 + 524288 * d29 + 1048576 * d30 + 2097152 * d31 = 3508160 ∧ d0 + 16 * d4 = 0) :=
  (wd_mk2 (-1024) (31) (-702611456) (0) (by decide) (by decide) (by decide) (by decide) (by decide)).trans (and_congr ((wd_mk 10 22 3508160 (by decide) (by decide)).trans (by rw [sg_10_22 h])) ((wd_mk 0 5 0 (by decide) (by decide)).trans (by rw [sg_0_5 h])))
theorem q_86 {w : Int32} {d0 d4 d5 d10 d11 d12 d13 d15 d16 d21 d22 d23 d24 d25 d26 d29 d30 d31 : Nat} (h : dg_ok w d0 d4 d5 d10 d11 d12 d13 d15 d16 d21 d22 d23 d24 d25 d26 d29 d30 d31) : ((w &&& (-993 : Int32)) = (-700514304 : Int32)) ↔ (d10 + 2 * d11 + 4 * d12 + 8 * d13 + 32 * d15 + 64 * d16 + 2048 * d21 + 4096 * d22 + 8192 * d23 + 16384 * d24 + 32768 * d25 + 65536 * d26 + 524288 * d29 + 1048576 * d30 + 2097152 * d31 = 3510208 ∧ d0 + 16 * d4 = 0) :=
  (wd_mk2 (-1024) (31) (-700514304) (0) (by decide) (by decide) (by decide) (by decide) (by decide)).trans (and_congr ((wd_mk 10 22 3510208 (by decide) (by decide)).trans (by rw [sg_10_22 h])) ((wd_mk 0 5 0 (by decide) (by decide)).trans (by rw [sg_0_5 h])))
theorem q_87 {w : Int32} {d0 d4 d5 d10 d11 d12 d13 d15 d16 d21 d22 d23 d24 d25 d26 d29 d30 d31 : Nat} (h : dg_ok w d0 d4 d5 d10 d11 d12 d13 d15 d16 d21 d22 d23 d24 d25 d26 d29 d30 d31) : ((w &&& (-993 : Int32)) = (-698417152 : Int32)) ↔ (d10 + 2 * d11 + 4 * d12 + 8 * d13 + 32 * d15 + 64 * d16 + 2048 * d21 + 4096 * d22 + 8192 * d23 + 16384 * d24 + 32768 * d25 + 65536 * d26 + 524288 * d29 + 1048576 * d30 + 2097152 * d31 = 3512256 ∧ d0 + 16 * d4 = 0) :=
  (wd_mk2 (-1024) (31) (-698417152) (0) (by decide) (by decide) (by decide) (by decide) (by decide)).trans (and_congr ((wd_mk 10 22 3512256 (by decide) (by decide)).trans (by rw [sg_10_22 h])) ((wd_mk 0 5 0 (by decide) (by decide)).trans (by rw [sg_0_5 h])))
theorem q_88 {w : Int32} {d0 d4 d5 d10 d11 d12 d13 d15 d16 d21 d22 d23 d24 d25 d26 d29 d30 d31 : Nat} (h : dg_ok w d0 d4 d5 d10 d11 d12 d13 d15 d16 d21 d22 d23 d24 d25 d26 d29 d30 d31) : ((w &&& (-2097121 : Int32)) = (-738197503 : Int32)) ↔ (d21 + 2 * d22 + 4 * d23 + 8 * d24 + 16 * d25 + 32 * d26 + 256 * d29 + 512 * d30 + 1024 * d31 = 1696 ∧ d0 + 16 * d4 = 1) :=
  (wd_mk2 (-2097152) (31) (-738197504) (1) (by decide) (by decide) (by decide) (by decide) (by decide)).trans (and_congr ((wd_mk 21 11 1696 (by decide) (by decide)).trans (by rw [sg_21_11 h])) ((wd_mk 0 5 1 (by decide) (by decide)).trans (by rw [sg_0_5 h])))
theorem sg_0_32 {w : Int32} {d0 d4 d5 d10 d11 d12 d13 d15 d16 d21 d22 d23 d24 d25 d26 d29 d30 d31 : Nat} (h : dg_ok w d0 d4 d5 d10 d11 d12 d13 d15 d16 d21 d22 d23 d24 d25 d26 d29 d30 d31) : w.toBitVec.toNat / 2 ^ 0 % 2 ^ 32 = d0 + 16 * d4 + 32 * d5 + 1024 * d10 + 2048 * d11 + 4096 * d12 + 8192 * d13 + 32768 * d15 + 65536 * d16 + 2097152 * d21 + 4194304 * d22 + 8388608 * d23 + 16777216 * d24 + 33554432 * d25 + 67108864 * d26 + 536870912 * d29 + 1073741824 * d30 + 2147483648 * d31 := by
  obtain ⟨⟨b0, b4, b5, b10, b11, b12, b13, b15, b16, b21, b22, b23, b24, b25, b26, b29, b30, b31⟩, hn⟩ := h
  exact wd_cut (A := 0) (C := d0 + 16 * d4 + 32 * d5 + 1024 * d10 + 2048 * d11 + 4096 * d12 + 8192 * d13 + 32768 * d15 + 65536 * d16 + 2097152 * d21 + 4194304 * d22 + 8388608 * d23 + 16777216 * d24 + 33554432 * d25 + 67108864 * d26 + 536870912 * d29 + 1073741824 * d30 + 2147483648 * d31) (D := 0) (by omega) (by omega) (by omega)
theorem q_89 {w : Int32} {d0 d4 d5 d10 d11 d12 d13 d15 d16 d21 d22 d23 d24 d25 d26 d29 d30 d31 : Nat} (h : dg_ok w d0 d4 d5 d10 d11 d12 d13 d15 d16 d21 d22 d23 d24 d25 d26 d29 d30 d31) : ((w &&& (-1 : Int32)) = (-721215457 : Int32)) ↔ (d0 + 16 * d4 + 32 * d5 + 1024 * d10 + 2048 * d11 + 4096 * d12 + 8192 * d13 + 32768 * d15 + 65536 * d16 + 2097152 * d21 + 4194304 * d22 + 8388608 * d23 + 16777216 * d24 + 33554432 * d25 + 67108864 * d26 + 536870912 * d29 + 1073741824 * d30 + 2147483648 * d31 = 3573751839) :=
  (wd_mk 0 32 3573751839 (by decide) (by decide)).trans (by rw [sg_0_32 h])
theorem a0_22_2 {w : Int32} {d0 d4 d5 d10 d11 d12 d13 d15 d16 d21 d22 d23 d24 d25 d26 d29 d30 d31 : Nat} (h : dg_ok w d0 d4 d5 d10 d11 d12 d13 d15 d16 d21 d22 d23 d24 d25 d26 d29 d30 d31) : fX0_bits w (22 : Int32) (2 : Int32) = nI (d22 + 2 * d23) := (wd_b0 w _ _ 22 2 (by decide) (by decide)).trans (congrArg nI (sg_22_2 h))
theorem q_90 {w : Int32} {d0 d4 d5 d10 d11 d12 d13 d15 d16 d21 d22 d23 d24 d25 d26 d29 d30 d31 : Nat} (h : dg_ok w d0 d4 d5 d10 d11 d12 d13 d15 d16 d21 d22 d23 d24 d25 d26 d29 d30 d31) : ((fX0_bits w (22 : Int32) (2 : Int32)) = (3 : Int32)) ↔ (d22 + 2 * d23 = 3) := by
  have h9 := h
  obtain ⟨⟨b0, b4, b5, b10, b11, b12, b13, b15, b16, b21, b22, b23, b24, b25, b26, b29, b30, b31⟩, hn⟩ := h9
  clear hn
  exact wd_e (a0_22_2 h) (by omega) 3 (by decide)
theorem a0_29_2 {w : Int32} {d0 d4 d5 d10 d11 d12 d13 d15 d16 d21 d22 d23 d24 d25 d26 d29 d30 d31 : Nat} (h : dg_ok w d0 d4 d5 d10 d11 d12 d13 d15 d16 d21 d22 d23 d24 d25 d26 d29 d30 d31) : fX0_bits w (29 : Int32) (2 : Int32) = nI (d29 + 2 * d30) := (wd_b0 w _ _ 29 2 (by decide) (by decide)).trans (congrArg nI (sg_29_2 h))
theorem q_91 {w : Int32} {d0 d4 d5 d10 d11 d12 d13 d15 d16 d21 d22 d23 d24 d25 d26 d29 d30 d31 : Nat} (h : dg_ok w d0 d4 d5 d10 d11 d12 d13 d15 d16 d21 d22 d23 d24 d25 d26 d29 d30 d31) : ((fX0_bits w (29 : Int32) (2 : Int32)) = (1 : Int32)) ↔ (d29 + 2 * d30 = 1) := by
  have h9 := h
  obtain ⟨⟨b0, b4, b5, b10, b11, b12, b13, b15, b16, b21, b22, b23, b24, b25, b26, b29, b30, b31⟩, hn⟩ := h9
  clear hn
  exact wd_e (a0_29_2 h) (by omega) 1 (by decide)
theorem sg_21_2 {w : Int32} {d0 d4 d5 d10 d11 d12 d13 d15 d16 d21 d22 d23 d24 d25 d26 d29 d30 d31 : Nat} (h : dg_ok w d0 d4 d5 d10 d11 d12 d13 d15 d16 d21 d22 d23 d24 d25 d26 d29 d30 d31) : w.toBitVec.toNat / 2 ^ 21 % 2 ^ 2 = d21 + 2 * d22 := by
  obtain ⟨⟨b0, b4, b5, b10, b11, b12, b13, b15, b16, b21, b22, b23, b24, b25, b26, b29, b30, b31⟩, hn⟩ := h
  exact wd_cut (A := d0 + 16 * d4 + 32 * d5 + 1024 * d10 + 2048 * d11 + 4096 * d12 + 8192 * d13 + 32768 * d15 + 65536 * d16) (C := d21 + 2 * d22) (D := d23 + 2 * d24 + 4 * d25 + 8 * d26 + 64 * d29 + 128 * d30 + 256 * d31) (by omega) (by omega) (by omega)
theorem a0_21_2 {w : Int32} {d0 d4 d5 d10 d11 d12 d13 d15 d16 d21 d22 d23 d24 d25 d26 d29 d30 d31 : Nat} (h : dg_ok w d0 d4 d5 d10 d11 d12 d13 d15 d16 d21 d22 d23 d24 d25 d26 d29 d30 d31) : fX0_bits w (21 : Int32) (2 : Int32) = nI (d21 + 2 * d22) := (wd_b0 w _ _ 21 2 (by decide) (by decide)).trans (congrArg nI (sg_21_2 h))
theorem q_92 {w : Int32} {d0 d4 d5 d10 d11 d12 d13 d15 d16 d21 d22 d23 d24 d25 d26 d29 d30 d31 : Nat} (h : dg_ok w d0 d4 d5 d10 d11 d12 d13 d15 d16 d21 d22 d23 d24 d25 d26 d29 d30 d31) : ((2 : Int32) ≤ (fX0_bits w (21 : Int32) (2 : Int32))) ↔ (2 ≤ d21 + 2 * d22) := by
  have h9 := h
  obtain ⟨⟨b0, b4, b5, b10, b11, b12, b13, b15, b16, b21, b22, b23, b24, b25, b26, b29, b30, b31⟩, hn⟩ := h9
  clear hn
  exact wd_ge (a0_21_2 h) (by omega) 2 (by decide)
theorem q_93 {w : Int32} {d0 d4 d5 d10 d11 d12 d13 d15 d16 d21 d22 d23 d24 d25 d26 d29 d30 d31 : Nat} (h : dg_ok w d0 d4 d5 d10 d11 d12 d13 d15 d16 d21 d22 d23 d24 d25 d26 d29 d30 d31) : ((fX0_bits w (10 : Int32) (6 : Int32)) = (2 : Int32)) ↔ (d10 + 2 * d11 + 4 * d12 + 8 * d13 + 32 * d15 = 2) := by
  have h9 := h
  obtain ⟨⟨b0, b4, b5, b10, b11, b12, b13, b15, b16, b21, b22, b23, b24, b25, b26, b29, b30, b31⟩, hn⟩ := h9
  clear hn
  exact wd_e (a0_10_6 h) (by omega) 2 (by decide)
theorem q_94 {w : Int32} {d0 d4 d5 d10 d11 d12 d13 d15 d16 d21 d22 d23 d24 d25 d26 d29 d30 d31 : Nat} (h : dg_ok w d0 d4 d5 d10 d11 d12 d13 d15 d16 d21 d22 d23 d24 d25 d26 d29 d30 d31) : ((fX0_bits w (10 : Int32) (6 : Int32)) = (3 : Int32)) ↔ (d10 + 2 * d11 + 4 * d12 + 8 * d13 + 32 * d15 = 3) := by
  have h9 := h
  obtain ⟨⟨b0, b4, b5, b10, b11, b12, b13, b15, b16, b21, b22, b23, b24, b25, b26, b29, b30, b31⟩, hn⟩ := h9
  clear hn
  exact wd_e (a0_10_6 h) (by omega) 3 (by decide)
theorem q_95 {w : Int32} {d0 d4 d5 d10 d11 d12 d13 d15 d16 d21 d22 d23 d24 d25 d26 d29 d30 d31 : Nat} (h : dg_ok w d0 d4 d5 d10 d11 d12 d13 d15 d16 d21 d22 d23 d24 d25 d26 d29 d30 d31) : ((fX0_bits w (10 : Int32) (6 : Int32)) < (8 : Int32)) ↔ (d10 + 2 * d11 + 4 * d12 + 8 * d13 + 32 * d15 < 8) := by
  have h9 := h
  obtain ⟨⟨b0, b4, b5, b10, b11, b12, b13, b15, b16, b21, b22, b23, b24, b25, b26, b29, b30, b31⟩, hn⟩ := h9
  clear hn
  exact wd_lt (a0_10_6 h) (by omega) 8 (by decide)
theorem q_96 {w : Int32} {d0 d4 d5 d10 d11 d12 d13 d15 d16 d21 d22 d23 d24 d25 d26 d29 d30 d31 : Nat} (h : dg_ok w d0 d4 d5 d10 d11 d12 d13 d15 d16 d21 d22 d23 d24 d25 d26 d29 d30 d31) : ((10 : Int32) < (fX0_bits w (10 : Int32) (6 : Int32))) ↔ (10 < d10 + 2 * d11 + 4 * d12 + 8 * d13 + 32 * d15) := by
  have h9 := h
  obtain ⟨⟨b0, b4, b5, b10, b11, b12, b13, b15, b16, b21, b22, b23, b24, b25, b26, b29, b30, b31⟩, hn⟩ := h9
  clear hn
  exact wd_gt (a0_10_6 h) (by omega) 10 (by decide)
theorem a0_12_4 {w : Int32} {d0 d4 d5 d10 d11 d12 d13 d15 d16 d21 d22 d23 d24 d25 d26 d29 d30 d31 : Nat} (h : dg_ok w d0 d4 d5 d10 d11 d12 d13 d15 d16 d21 d22 d23 d24 d25 d26 d29 d30 d31) : fX0_bits w (12 : Int32) (4 : Int32) = nI (d12 + 2 * d13 + 8 * d15) := (wd_b0 w _ _ 12 4 (by decide) (by decide)).trans (congrArg nI (sg_12_4 h))
theorem q_97 {w : Int32} {d0 d4 d5 d10 d11 d12 d13 d15 d16 d21 d22 d23 d24 d25 d26 d29 d30 d31 : Nat} (h : dg_ok w d0 d4 d5 d10 d11 d12 d13 d15 d16 d21 d22 d23 d24 d25 d26 d29 d30 d31) : ((13 : Int32) < (fX0_bits w (12 : Int32) (4 : Int32))) ↔ (13 < d12 + 2 * d13 + 8 * d15) := by
  have h9 := h
  obtain ⟨⟨b0, b4, b5, b10, b11, b12, b13, b15, b16, b21, b22, b23, b24, b25, b26, b29, b30, b31⟩, hn⟩ := h9
  clear hn
  exact wd_gt (a0_12_4 h) (by omega) 13 (by decide)
theorem a0_0_4 {w : Int32} {d0 d4 d5 d10 d11 d12 d13 d15 d16 d21 d22 d23 d24 d25 d26 d29 d30 d31 : Nat} (h : dg_ok w d0 d4 d5 d10 d11 d12 d13 d15 d16 d21 d22 d23 d24 d25 d26 d29 d30 d31) : fX0_bits w (0 : Int32) (4 : Int32) = nI (d0) := (wd_b0 w _ _ 0 4 (by decide) (by decide)).trans (congrArg nI (sg_0_4 h))
theorem q_98 {w : Int32} {d0 d4 d5 d10 d11 d12 d13 d15 d16 d21 d22 d23 d24 d25 d26 d29 d30 d31 : Nat} (h : dg_ok w d0 d4 d5 d10 d11 d12 d13 d15 d16 d21 d22 d23 d24 d25 d26 d29 d30 d31) : ((13 : Int32) < (fX0_bits w (0 : Int32) (4 : Int32))) ↔ (13 < d0) := by
  have h9 := h
  obtain ⟨⟨b0, b4, b5, b10, b11, b12, b13, b15, b16, b21, b22, b23, b24, b25, b26, b29, b30, b31⟩, hn⟩ := h9
  clear hn
  exact wd_gt (a0_0_4 h) (by omega) 13 (by decide)
theorem q_99 {w : Int32} {d0 d4 d5 d10 d11 d12 d13 d15 d16 d21 d22 d23 d24 d25 d26 d29 d30 d31 : Nat} (h : dg_ok w d0 d4 d5 d10 d11 d12 d13 d15 d16 d21 d22 d23 d24 d25 d26 d29 d30 d31) : ((fX0_bits w (22 : Int32) (2 : Int32)) = (2 : Int32)) ↔ (d22 + 2 * d23 = 2) := by
  have h9 := h
  obtain ⟨⟨b0, b4, b5, b10, b11, b12, b13, b15, b16, b21, b22, b23, b24, b25, b26, b29, b30, b31⟩, hn⟩ := h9
  clear hn
  exact wd_e (a0_22_2 h) (by omega) 2 (by decide)
theorem a0_30_2 {w : Int32} {d0 d4 d5 d10 d11 d12 d13 d15 d16 d21 d22 d23 d24 d25 d26 d29 d30 d31 : Nat} (h : dg_ok w d0 d4 d5 d10 d11 d12 d13 d15 d16 d21 d22 d23 d24 d25 d26 d29 d30 d31) : fX0_bits w (30 : Int32) (2 : Int32) = nI (d30 + 2 * d31) := (wd_b0 w _ _ 30 2 (by decide) (by decide)).trans (congrArg nI (sg_30_2 h))
theorem q_100 {w : Int32} {d0 d4 d5 d10 d11 d12 d13 d15 d16 d21 d22 d23 d24 d25 d26 d29 d30 d31 : Nat} (h : dg_ok w d0 d4 d5 d10 d11 d12 d13 d15 d16 d21 d22 d23 d24 d25 d26 d29 d30 d31) : ((fX0_bits w (30 : Int32) (2 : Int32)) = (2 : Int32)) ↔ (d30 + 2 * d31 = 2) := by
  have h9 := h
  obtain ⟨⟨b0, b4, b5, b10, b11, b12, b13, b15, b16, b21, b22, b23, b24, b25, b26, b29, b30, b31⟩, hn⟩ := h9
  clear hn
  exact wd_e (a0_30_2 h) (by omega) 2 (by decide)
theorem q_101 {w : Int32} {d0 d4 d5 d10 d11 d12 d13 d15 d16 d21 d22 d23 d24 d25 d26 d29 d30 d31 : Nat} (h : dg_ok w d0 d4 d5 d10 d11 d12 d13 d15 d16 d21 d22 d23 d24 d25 d26 d29 d30 d31) : ((fX0_bits w (30 : Int32) (2 : Int32)) = (1 : Int32)) ↔ (d30 + 2 * d31 = 1) := by
  have h9 := h
  obtain ⟨⟨b0, b4, b5, b10, b11, b12, b13, b15, b16, b21, b22, b23, b24, b25, b26, b29, b30, b31⟩, hn⟩ := h9
  clear hn
  exact wd_e (a0_30_2 h) (by omega) 1 (by decide)
end
section
set_option maxHeartbeats 8000000 in
set_option maxRecDepth 100000 in
theorem z0_long {w : Int32} {d0 d4 d5 d10 d11 d12 d13 d15 d16 d21 d22 d23 d24 d25 d26 d29 d30 d31 : Nat} (h : dg_ok w d0 d4 d5 d10 d11 d12 d13 d15 d16 d21 d22 d23 d24 d25 d26 d29 d30 d31) : (fX0_isLong w = 0) ↔ (d31 = 0) := by
  rw [← q_0 h]
  unfold fX0_isLong
  split
  · rename_i g; exact ⟨fun _ => g, fun _ => rfl⟩
  · rename_i g; exact ⟨fun k => absurd k (by decide), fun k => absurd k g⟩
set_option maxHeartbeats 8000000 in
set_option maxRecDepth 100000 in
theorem z0_moved {w : Int32} {d0 d4 d5 d10 d11 d12 d13 d15 d16 d21 d22 d23 d24 d25 d26 d29 d30 d31 : Nat} (h : dg_ok w d0 d4 d5 d10 d11 d12 d13 d15 d16 d21 d22 d23 d24 d25 d26 d29 d30 d31) : (fX0_isMovedWithin w = 0) ↔ (d31 = 0 ∧ d15 = 1) := by
  have h9 := h
  obtain ⟨⟨b0, b4, b5, b10, b11, b12, b13, b15, b16, b21, b22, b23, b24, b25, b26, b29, b30, b31⟩, hn⟩ := h9
  clear hn
  unfold fX0_isMovedWithin
  simp only [z0_long h, q_1 h]
  clear h
  repeat' split
  all_goals first | exact ⟨fun _ => by omega, fun _ => rfl⟩ | exact ⟨fun g => absurd g (by decide), fun g => by exfalso; omega⟩
set_option maxHeartbeats 8000000 in
set_option maxRecDepth 100000 in
theorem z0_pair {w : Int32} {d0 d4 d5 d10 d11 d12 d13 d15 d16 d21 d22 d23 d24 d25 d26 d29 d30 d31 : Nat} (h : dg_ok w d0 d4 d5 d10 d11 d12 d13 d15 d16 d21 d22 d23 d24 d25 d26 d29 d30 d31) : (fX0_isPair w = 0) ↔ (d23 + 2 * d24 = 0 ∨ (¬ d23 + 2 * d24 = 2 ∧ ¬ d5 = 31 ∧ (d5 = d0 + 16 * d4 ∨ d5 = d10 + 2 * d11 + 4 * d12 + 8 * d13)) ∨ (d22 = 1 ∧ d0 + 16 * d4 = d10 + 2 * d11 + 4 * d12 + 8 * d13)) := by
  have h9 := h
  obtain ⟨⟨b0, b4, b5, b10, b11, b12, b13, b15, b16, b21, b22, b23, b24, b25, b26, b29, b30, b31⟩, hn⟩ := h9
  clear hn
  unfold fX0_isPair
  simp only [q_2 h, q_3 h, q_4 h, q_5 h, q_6 h, q_7 h, q_8 h]
  clear h
  repeat' split
  all_goals first | exact ⟨fun _ => by omega, fun _ => rfl⟩ | exact ⟨fun g => absurd g (by decide), fun g => by exfalso; omega⟩
set_option maxHeartbeats 8000000 in
set_option maxRecDepth 100000 in
theorem z1_pair {w : Int32} {d0 d4 d5 d10 d11 d12 d13 d15 d16 d21 d22 d23 d24 d25 d26 d29 d30 d31 : Nat} (h : dg_ok w d0 d4 d5 d10 d11 d12 d13 d15 d16 d21 d22 d23 d24 d25 d26 d29 d30 d31) : (fX1_isPair w = 0) ↔ (d23 + 2 * d24 = 0 ∨ (¬ d23 + 2 * d24 = 2 ∧ ¬ d5 = 31 ∧ (d5 = d0 + 16 * d4 ∨ d5 = d10 + 2 * d11 + 4 * d12 + 8 * d13)) ∨ (d22 = 1 ∧ d0 + 16 * d4 = d10 + 2 * d11 + 4 * d12 + 8 * d13)) := by
  have h9 := h
  obtain ⟨⟨b0, b4, b5, b10, b11, b12, b13, b15, b16, b21, b22, b23, b24, b25, b26, b29, b30, b31⟩, hn⟩ := h9
  clear hn
  unfold fX1_isPair
  simp only [q_9 h, q_10 h, q_11 h, q_12 h, q_13 h, q_14 h, q_15 h]
  clear h
  repeat' split
  all_goals first | exact ⟨fun _ => by omega, fun _ => rfl⟩ | exact ⟨fun g => absurd g (by decide), fun g => by exfalso; omega⟩
set_option maxHeartbeats 8000000 in
set_option maxRecDepth 100000 in
theorem z1_moved {w : Int32} {d0 d4 d5 d10 d11 d12 d13 d15 d16 d21 d22 d23 d24 d25 d26 d29 d30 d31 : Nat} (h : dg_ok w d0 d4 d5 d10 d11 d12 d13 d15 d16 d21 d22 d23 d24 d25 d26 d29 d30 d31) : (fX1_isMoved w = 0) ↔ (d31 = 0 ∧ d15 = 1) := by
  have h9 := h
  obtain ⟨⟨b0, b4, b5, b10, b11, b12, b13, b15, b16, b21, b22, b23, b24, b25, b26, b29, b30, b31⟩, hn⟩ := h9
  clear hn
  unfold fX1_isMoved
  simp only [q_16 h, q_17 h]
  clear h
  repeat' split
  all_goals first | exact ⟨fun _ => by omega, fun _ => rfl⟩ | exact ⟨fun g => absurd g (by decide), fun g => by exfalso; omega⟩
set_option maxHeartbeats 8000000 in
set_option maxRecDepth 100000 in
theorem z1_byreg {w : Int32} {d0 d4 d5 d10 d11 d12 d13 d15 d16 d21 d22 d23 d24 d25 d26 d29 d30 d31 : Nat} (h : dg_ok w d0 d4 d5 d10 d11 d12 d13 d15 d16 d21 d22 d23 d24 d25 d26 d29 d30 d31) : (fX1_isByRegister w = 0) ↔ (¬ (d21 = 1 ∧ d13 + 4 * d15 = 3 ∧ d10 + 2 * d11 = 2)) := by
  have h9 := h
  obtain ⟨⟨b0, b4, b5, b10, b11, b12, b13, b15, b16, b21, b22, b23, b24, b25, b26, b29, b30, b31⟩, hn⟩ := h9
  clear hn
  unfold fX1_isByRegister
  simp only [q_18 h, q_19 h, q_20 h]
  clear h
  repeat' split
  all_goals first | exact ⟨fun _ => by omega, fun _ => rfl⟩ | exact ⟨fun g => absurd g (by decide), fun g => by exfalso; omega⟩
set_option maxHeartbeats 8000000 in
set_option maxRecDepth 100000 in
theorem z1_size {w : Int32} {d0 d4 d5 d10 d11 d12 d13 d15 d16 d21 d22 d23 d24 d25 d26 d29 d30 d31 : Nat} (h : dg_ok w d0 d4 d5 d10 d11 d12 d13 d15 d16 d21 d22 d23 d24 d25 d26 d29 d30 d31) : (fX1_isSize w = 0) ↔ ((d22 + 2 * d23 = 3) ∨ (d22 + 2 * d23 = 2 ∧ ¬ d30 + 2 * d31 = 2) ∨ (¬ d22 + 2 * d23 = 2 ∧ d30 + 2 * d31 = 1)) := by
  have h9 := h
  obtain ⟨⟨b0, b4, b5, b10, b11, b12, b13, b15, b16, b21, b22, b23, b24, b25, b26, b29, b30, b31⟩, hn⟩ := h9
  clear hn
  unfold fX1_isSize
  simp only [q_21 h, q_22 h, q_23 h, q_24 h]
  clear h
  repeat' split
  all_goals first | exact ⟨fun _ => by omega, fun _ => rfl⟩ | exact ⟨fun g => absurd g (by decide), fun g => by exfalso; omega⟩
set_option maxHeartbeats 8000000 in
set_option maxRecDepth 100000 in
theorem k1_gbr {w : Int32} {d0 d4 d5 d10 d11 d12 d13 d15 d16 d21 d22 d23 d24 d25 d26 d29 d30 d31 : Nat} (h : dg_ok w d0 d4 d5 d10 d11 d12 d13 d15 d16 d21 d22 d23 d24 d25 d26 d29 d30 d31) : fX1_goesByRegister w = (if 0 < d0 + 16 * d4 then (0 : Int32) else (if 0 < d10 + 2 * d11 + 4 * d12 + 8 * d13 + 32 * d15 then (0 : Int32) else (if d16 = 31 then (if 3 ≤ d21 + 2 * d22 + 4 * d23 then (0 : Int32) else (if d21 + 2 * d22 + 4 * d23 = 0 then (17 : Int32) else (if d21 + 2 * d22 + 4 * d23 = 1 then (18 : Int32) else (19 : Int32)))) else (0 : Int32)))) := by
  have h9 := h
  obtain ⟨⟨b0, b4, b5, b10, b11, b12, b13, b15, b16, b21, b22, b23, b24, b25, b26, b29, b30, b31⟩, hn⟩ := h9
  clear hn
  have e := a1_21_23 h
  unfold fX1_goesByRegister
  simp only [q_25 h, q_26 h, q_27 h, q_28 h]
  clear h
  repeat' split
  all_goals first | rfl | (rw [e]; first | (rw [show d21 + 2 * d22 + 4 * d23 = 0 from by omega]; decide) | (rw [show d21 + 2 * d22 + 4 * d23 = 1 from by omega]; decide) | (rw [show d21 + 2 * d22 + 4 * d23 = 2 from by omega]; decide))
def jN (d0 d4 d5 d10 d11 d12 d13 d15 d16 d21 d22 d23 d24 d25 d26 d29 d30 d31 : Nat) : Int32 := (if d26 + 8 * d29 + 16 * d30 + 32 * d31 = 5 then (12 : Int32) else (if d26 + 8 * d29 + 16 * d30 + 32 * d31 = 37 then (13 : Int32) else (if d24 + 2 * d25 + 4 * d26 + 32 * d29 + 64 * d30 + 128 * d31 = 84 then (if d4 = 0 then (if 14 ≤ d0 then (0 : Int32) else (14 : Int32)) else (0 : Int32)) else (if d25 + 2 * d26 + 16 * d29 + 32 * d30 = 26 then (15 : Int32) else (if d25 + 2 * d26 + 16 * d29 + 32 * d30 = 27 then (16 : Int32) else (if d24 + 2 * d25 + 4 * d26 + 32 * d29 + 64 * d30 + 128 * d31 = 214 then (if 0 < d0 + 16 * d4 then (0 : Int32) else (if 0 < d10 + 2 * d11 + 4 * d12 + 8 * d13 + 32 * d15 then (0 : Int32) else (if d16 = 31 then (if 3 ≤ d21 + 2 * d22 + 4 * d23 then (0 : Int32) else (if d21 + 2 * d22 + 4 * d23 = 0 then (17 : Int32) else (if d21 + 2 * d22 + 4 * d23 = 1 then (18 : Int32) else (19 : Int32)))) else (0 : Int32)))) else (if d21 + 2 * d22 + 4 * d23 + 8 * d24 + 16 * d25 + 32 * d26 + 256 * d29 + 512 * d30 + 1024 * d31 = 1696 then (if d0 + 16 * d4 = 1 then (20 : Int32) else (if d0 + 16 * d4 + 32 * d5 + 1024 * d10 + 2048 * d11 + 4096 * d12 + 8192 * d13 + 32768 * d15 + 65536 * d16 + 2097152 * d21 + 4194304 * d22 + 8388608 * d23 + 16777216 * d24 + 33554432 * d25 + 67108864 * d26 + 536870912 * d29 + 1073741824 * d30 + 2147483648 * d31 = 3573751839 then (21 : Int32) else (0 : Int32))) else (if d0 + 16 * d4 + 32 * d5 + 1024 * d10 + 2048 * d11 + 4096 * d12 + 8192 * d13 + 32768 * d15 + 65536 * d16 + 2097152 * d21 + 4194304 * d22 + 8388608 * d23 + 16777216 * d24 + 33554432 * d25 + 67108864 * d26 + 536870912 * d29 + 1073741824 * d30 + 2147483648 * d31 = 3573751839 then (21 : Int32) else (0 : Int32)))))))))
def i2N (d0 d4 d5 d10 d11 d12 d13 d15 d16 d21 d22 d23 d24 d25 d26 d29 d30 d31 : Nat) : Int32 := (if d21 + 2 * d22 + 4 * d23 = 6 then (if d10 + 2 * d11 + 4 * d12 + 8 * d13 + 32 * d15 = 2 then (7 : Int32) else (if d10 + 2 * d11 + 4 * d12 + 8 * d13 + 32 * d15 = 3 then (7 : Int32) else (if d10 + 2 * d11 + 4 * d12 + 8 * d13 + 32 * d15 ≤ 7 then (0 : Int32) else (if 11 ≤ d10 + 2 * d11 + 4 * d12 + 8 * d13 + 32 * d15 then (0 : Int32) else (7 : Int32))))) else (if d21 + 2 * d22 + 4 * d23 = 4 then (if d11 = 0 then (if 14 ≤ d12 + 2 * d13 + 8 * d15 then (0 : Int32) else (8 : Int32)) else (0 : Int32)) else (0 : Int32)))
def kN (d0 d4 d5 d10 d11 d12 d13 d15 d16 d21 d22 d23 d24 d25 d26 d29 d30 d31 : Nat) : Int32 := (if d24 + 2 * d25 + 4 * d26 = 8 then (if d25 + 2 * d26 + 16 * d29 + 32 * d30 + 64 * d31 = 84 then (if d23 + 2 * d24 = 0 ∨ (¬ d23 + 2 * d24 = 2 ∧ ¬ d5 = 31 ∧ (d5 = d0 + 16 * d4 ∨ d5 = d10 + 2 * d11 + 4 * d12 + 8 * d13)) ∨ (d22 = 1 ∧ d0 + 16 * d4 = d10 + 2 * d11 + 4 * d12 + 8 * d13) then (0 : Int32) else (11 : Int32)) else (0 : Int32)) else (if d24 + 2 * d25 + 4 * d26 = 9 then (if d25 + 2 * d26 + 16 * d29 + 32 * d30 + 64 * d31 = 84 then (if d23 + 2 * d24 = 0 ∨ (¬ d23 + 2 * d24 = 2 ∧ ¬ d5 = 31 ∧ (d5 = d0 + 16 * d4 ∨ d5 = d10 + 2 * d11 + 4 * d12 + 8 * d13)) ∨ (d22 = 1 ∧ d0 + 16 * d4 = d10 + 2 * d11 + 4 * d12 + 8 * d13) then (0 : Int32) else (11 : Int32)) else (0 : Int32)) else (if d24 + 2 * d25 + 4 * d26 = 10 then (if d31 = 0 ∧ d15 = 1 then (0 : Int32) else (3 : Int32)) else (if d24 + 2 * d25 + 4 * d26 = 11 then (if d21 = 0 then (if d22 + 2 * d23 = 3 then (0 : Int32) else (if d31 = 0 ∧ d15 = 1 then (0 : Int32) else (2 : Int32))) else (0 : Int32)) else (if d24 + 2 * d25 + 4 * d26 = 16 then (if d31 = 0 then (0 : Int32) else (5 : Int32)) else (if d24 + 2 * d25 + 4 * d26 = 17 then (if d23 = 0 then (1 : Int32) else (0 : Int32)) else (if d24 + 2 * d25 + 4 * d26 = 18 then (if d23 = 1 then (if d29 + 2 * d30 = 1 then (0 : Int32) else (if d31 = 1 then (4 : Int32) else (if d22 = 0 then (4 : Int32) else (0 : Int32)))) else (0 : Int32)) else (if d24 + 2 * d25 + 4 * d26 = 24 then (if d29 = 1 then (if ¬ (d21 = 1 ∧ d13 + 4 * d15 = 3 ∧ d10 + 2 * d11 = 2) then (0 : Int32) else (if (d22 + 2 * d23 = 3) ∨ (d22 + 2 * d23 = 2 ∧ ¬ d30 + 2 * d31 = 2) ∨ (¬ d22 + 2 * d23 = 2 ∧ d30 + 2 * d31 = 1) then (0 : Int32) else (10 : Int32))) else (0 : Int32)) else (if d24 + 2 * d25 + 4 * d26 = 25 then (if d29 = 1 then (if (d22 + 2 * d23 = 3) ∨ (d22 + 2 * d23 = 2 ∧ ¬ d30 + 2 * d31 = 2) ∨ (¬ d22 + 2 * d23 = 2 ∧ d30 + 2 * d31 = 1) then (0 : Int32) else (9 : Int32)) else (0 : Int32)) else (if d24 + 2 * d25 + 4 * d26 = 26 then (if d29 + 2 * d30 ≤ 0 then (i2N d0 d4 d5 d10 d11 d12 d13 d15 d16 d21 d22 d23 d24 d25 d26 d29 d30 d31) else (0 : Int32)) else (if d24 + 2 * d25 + 4 * d26 = 27 then (if d21 + 2 * d22 + 4 * d23 = 0 then (if d29 + 2 * d30 = 0 then (6 : Int32) else (0 : Int32)) else (0 : Int32)) else (jN d0 d4 d5 d10 d11 d12 d13 d15 d16 d21 d22 d23 d24 d25 d26 d29 d30 d31))))))))))))
set_option maxHeartbeats 8000000 in
set_option maxRecDepth 100000 in
theorem k1_jumps {w : Int32} {d0 d4 d5 d10 d11 d12 d13 d15 d16 d21 d22 d23 d24 d25 d26 d29 d30 d31 : Nat} (h : dg_ok w d0 d4 d5 d10 d11 d12 d13 d15 d16 d21 d22 d23 d24 d25 d26 d29 d30 d31) : fX1_jumps w = jN d0 d4 d5 d10 d11 d12 d13 d15 d16 d21 d22 d23 d24 d25 d26 d29 d30 d31 := by
  unfold fX1_jumps jN
  simp only [k1_gbr h, q_29 h, q_30 h, q_31 h, q_32 h, q_33 h, q_34 h, q_35 h, q_36 h, q_37 h, q_38 h, q_39 h]
set_option maxHeartbeats 8000000 in
set_option maxRecDepth 100000 in
theorem k1_inTwo {w : Int32} {d0 d4 d5 d10 d11 d12 d13 d15 d16 d21 d22 d23 d24 d25 d26 d29 d30 d31 : Nat} (h : dg_ok w d0 d4 d5 d10 d11 d12 d13 d15 d16 d21 d22 d23 d24 d25 d26 d29 d30 d31) : fX1_inTwo w = i2N d0 d4 d5 d10 d11 d12 d13 d15 d16 d21 d22 d23 d24 d25 d26 d29 d30 d31 := by
  unfold fX1_inTwo i2N
  simp only [q_40 h, q_41 h, q_42 h, q_43 h, q_44 h, q_45 h, q_46 h, q_47 h]
set_option maxHeartbeats 8000000 in
set_option maxRecDepth 100000 in
theorem k1_N {w : Int32} {d0 d4 d5 d10 d11 d12 d13 d15 d16 d21 d22 d23 d24 d25 d26 d29 d30 d31 : Nat} (h : dg_ok w d0 d4 d5 d10 d11 d12 d13 d15 d16 d21 d22 d23 d24 d25 d26 d29 d30 d31) : fX1_kind w = kN d0 d4 d5 d10 d11 d12 d13 d15 d16 d21 d22 d23 d24 d25 d26 d29 d30 d31 := by
  unfold fX1_kind kN
  simp only [k1_jumps h, k1_inTwo h, z1_pair h, z1_moved h, z1_byreg h, z1_size h, q_48 h, q_49 h, q_50 h, q_51 h, q_52 h, q_53 h, q_54 h, q_55 h, q_0 h, q_56 h, q_57 h, q_58 h, q_59 h, q_60 h, q_16 h, q_11 h, q_61 h, q_62 h, q_63 h, q_64 h, q_65 h, q_66 h, q_67 h, q_68 h]
set_option maxHeartbeats 8000000 in
set_option maxRecDepth 100000 in
theorem al_1 (w : Int32) : ¬ fX0_isAllowed (1 : Int32) w = 0 := by
  unfold fX0_isAllowed
  rw [if_neg (by decide), if_neg (by decide), if_neg (by decide), if_neg (by decide), if_neg (by decide), if_neg (by decide), if_neg (by decide), if_neg (by decide), if_neg (by decide)]
  decide
set_option maxHeartbeats 8000000 in
set_option maxRecDepth 100000 in
theorem al_2 {w : Int32} {d0 d4 d5 d10 d11 d12 d13 d15 d16 d21 d22 d23 d24 d25 d26 d29 d30 d31 : Nat} (h : dg_ok w d0 d4 d5 d10 d11 d12 d13 d15 d16 d21 d22 d23 d24 d25 d26 d29 d30 d31) : (fX0_isAllowed (2 : Int32) w = 0) ↔ (d22 + 2 * d23 = 3 ∨ (d31 = 0 ∧ d15 = 1)) := by
  have h9 := h
  obtain ⟨⟨b0, b4, b5, b10, b11, b12, b13, b15, b16, b21, b22, b23, b24, b25, b26, b29, b30, b31⟩, hn⟩ := h9
  clear hn
  unfold fX0_isAllowed
  rw [if_pos rfl]
  simp only [fX0_isTwo, fX0_isCondition, fX0_isLoad, z0_moved h, z0_long h, q_1 h, q_2 h, q_3 h, q_4 h, q_5 h, q_6 h, q_7 h, q_8 h, q_90 h, q_91 h, q_92 h, q_93 h, q_94 h, q_95 h, q_96 h, q_97 h, q_98 h, q_99 h, q_100 h, q_101 h]
  clear h
  repeat' split
  all_goals first | exact ⟨fun _ => by omega, fun _ => rfl⟩ | exact ⟨fun g => absurd g (by decide), fun g => by exfalso; omega⟩
set_option maxHeartbeats 8000000 in
set_option maxRecDepth 100000 in
theorem al_3 {w : Int32} {d0 d4 d5 d10 d11 d12 d13 d15 d16 d21 d22 d23 d24 d25 d26 d29 d30 d31 : Nat} (h : dg_ok w d0 d4 d5 d10 d11 d12 d13 d15 d16 d21 d22 d23 d24 d25 d26 d29 d30 d31) : (fX0_isAllowed (3 : Int32) w = 0) ↔ (d31 = 0 ∧ d15 = 1) := by
  unfold fX0_isAllowed
  rw [if_neg (by decide), if_pos rfl]
  exact z0_moved h
set_option maxHeartbeats 8000000 in
set_option maxRecDepth 100000 in
theorem al_4 {w : Int32} {d0 d4 d5 d10 d11 d12 d13 d15 d16 d21 d22 d23 d24 d25 d26 d29 d30 d31 : Nat} (h : dg_ok w d0 d4 d5 d10 d11 d12 d13 d15 d16 d21 d22 d23 d24 d25 d26 d29 d30 d31) : (fX0_isAllowed (4 : Int32) w = 0) ↔ (d29 + 2 * d30 = 1 ∨ (d31 = 0 ∧ 2 ≤ d21 + 2 * d22)) := by
  have h9 := h
  obtain ⟨⟨b0, b4, b5, b10, b11, b12, b13, b15, b16, b21, b22, b23, b24, b25, b26, b29, b30, b31⟩, hn⟩ := h9
  clear hn
  unfold fX0_isAllowed
  rw [if_neg (by decide), if_neg (by decide), if_pos rfl]
  simp only [fX0_isTwo, fX0_isCondition, fX0_isLoad, z0_moved h, z0_long h, q_1 h, q_2 h, q_3 h, q_4 h, q_5 h, q_6 h, q_7 h, q_8 h, q_90 h, q_91 h, q_92 h, q_93 h, q_94 h, q_95 h, q_96 h, q_97 h, q_98 h, q_99 h, q_100 h, q_101 h]
  clear h
  repeat' split
  all_goals first | exact ⟨fun _ => by omega, fun _ => rfl⟩ | exact ⟨fun g => absurd g (by decide), fun g => by exfalso; omega⟩
set_option maxHeartbeats 8000000 in
set_option maxRecDepth 100000 in
theorem al_5 (w : Int32) : ¬ fX0_isAllowed (5 : Int32) w = 0 := by
  unfold fX0_isAllowed
  rw [if_neg (by decide), if_neg (by decide), if_neg (by decide), if_neg (by decide), if_neg (by decide), if_neg (by decide), if_neg (by decide), if_neg (by decide), if_neg (by decide)]
  decide
set_option maxHeartbeats 8000000 in
set_option maxRecDepth 100000 in
theorem al_6 (w : Int32) : ¬ fX0_isAllowed (6 : Int32) w = 0 := by
  unfold fX0_isAllowed
  rw [if_neg (by decide), if_neg (by decide), if_neg (by decide), if_neg (by decide), if_neg (by decide), if_neg (by decide), if_neg (by decide), if_neg (by decide), if_neg (by decide)]
  decide
set_option maxHeartbeats 8000000 in
set_option maxRecDepth 100000 in
theorem al_7 {w : Int32} {d0 d4 d5 d10 d11 d12 d13 d15 d16 d21 d22 d23 d24 d25 d26 d29 d30 d31 : Nat} (h : dg_ok w d0 d4 d5 d10 d11 d12 d13 d15 d16 d21 d22 d23 d24 d25 d26 d29 d30 d31) : (fX0_isAllowed (7 : Int32) w = 0) ↔ (¬ (d10 + 2 * d11 + 4 * d12 + 8 * d13 + 32 * d15 = 2 ∨ d10 + 2 * d11 + 4 * d12 + 8 * d13 + 32 * d15 = 3 ∨ (8 ≤ d10 + 2 * d11 + 4 * d12 + 8 * d13 + 32 * d15 ∧ d10 + 2 * d11 + 4 * d12 + 8 * d13 + 32 * d15 ≤ 10))) := by
  have h9 := h
  obtain ⟨⟨b0, b4, b5, b10, b11, b12, b13, b15, b16, b21, b22, b23, b24, b25, b26, b29, b30, b31⟩, hn⟩ := h9
  clear hn
  unfold fX0_isAllowed
  rw [if_neg (by decide), if_neg (by decide), if_neg (by decide), if_pos rfl]
  simp only [fX0_isTwo, fX0_isCondition, fX0_isLoad, z0_moved h, z0_long h, q_1 h, q_2 h, q_3 h, q_4 h, q_5 h, q_6 h, q_7 h, q_8 h, q_90 h, q_91 h, q_92 h, q_93 h, q_94 h, q_95 h, q_96 h, q_97 h, q_98 h, q_99 h, q_100 h, q_101 h]
  clear h
  repeat' split
  all_goals first | exact ⟨fun _ => by omega, fun _ => rfl⟩ | exact ⟨fun g => absurd g (by decide), fun g => by exfalso; omega⟩
set_option maxHeartbeats 8000000 in
set_option maxRecDepth 100000 in
theorem al_8 {w : Int32} {d0 d4 d5 d10 d11 d12 d13 d15 d16 d21 d22 d23 d24 d25 d26 d29 d30 d31 : Nat} (h : dg_ok w d0 d4 d5 d10 d11 d12 d13 d15 d16 d21 d22 d23 d24 d25 d26 d29 d30 d31) : (fX0_isAllowed (8 : Int32) w = 0) ↔ (13 < d12 + 2 * d13 + 8 * d15) := by
  have h9 := h
  obtain ⟨⟨b0, b4, b5, b10, b11, b12, b13, b15, b16, b21, b22, b23, b24, b25, b26, b29, b30, b31⟩, hn⟩ := h9
  clear hn
  unfold fX0_isAllowed
  rw [if_neg (by decide), if_neg (by decide), if_neg (by decide), if_neg (by decide), if_pos rfl]
  simp only [fX0_isTwo, fX0_isCondition, fX0_isLoad, z0_moved h, z0_long h, q_1 h, q_2 h, q_3 h, q_4 h, q_5 h, q_6 h, q_7 h, q_8 h, q_90 h, q_91 h, q_92 h, q_93 h, q_94 h, q_95 h, q_96 h, q_97 h, q_98 h, q_99 h, q_100 h, q_101 h]
  clear h
  repeat' split
  all_goals first | exact ⟨fun _ => by omega, fun _ => rfl⟩ | exact ⟨fun g => absurd g (by decide), fun g => by exfalso; omega⟩
set_option maxHeartbeats 8000000 in
set_option maxRecDepth 100000 in
theorem al_9 {w : Int32} {d0 d4 d5 d10 d11 d12 d13 d15 d16 d21 d22 d23 d24 d25 d26 d29 d30 d31 : Nat} (h : dg_ok w d0 d4 d5 d10 d11 d12 d13 d15 d16 d21 d22 d23 d24 d25 d26 d29 d30 d31) : (fX0_isAllowed (9 : Int32) w = 0) ↔ ((d22 + 2 * d23 = 3) ∨ (d22 + 2 * d23 = 2 ∧ ¬ d30 + 2 * d31 = 2) ∨ (¬ d22 + 2 * d23 = 2 ∧ d30 + 2 * d31 = 1)) := by
  have h9 := h
  obtain ⟨⟨b0, b4, b5, b10, b11, b12, b13, b15, b16, b21, b22, b23, b24, b25, b26, b29, b30, b31⟩, hn⟩ := h9
  clear hn
  unfold fX0_isAllowed
  rw [if_neg (by decide), if_neg (by decide), if_neg (by decide), if_neg (by decide), if_neg (by decide), if_pos rfl]
  simp only [fX0_isTwo, fX0_isCondition, fX0_isLoad, z0_moved h, z0_long h, q_1 h, q_2 h, q_3 h, q_4 h, q_5 h, q_6 h, q_7 h, q_8 h, q_90 h, q_91 h, q_92 h, q_93 h, q_94 h, q_95 h, q_96 h, q_97 h, q_98 h, q_99 h, q_100 h, q_101 h]
  clear h
  repeat' split
  all_goals first | exact ⟨fun _ => by omega, fun _ => rfl⟩ | exact ⟨fun g => absurd g (by decide), fun g => by exfalso; omega⟩
set_option maxHeartbeats 8000000 in
set_option maxRecDepth 100000 in
theorem al_10 {w : Int32} {d0 d4 d5 d10 d11 d12 d13 d15 d16 d21 d22 d23 d24 d25 d26 d29 d30 d31 : Nat} (h : dg_ok w d0 d4 d5 d10 d11 d12 d13 d15 d16 d21 d22 d23 d24 d25 d26 d29 d30 d31) : (fX0_isAllowed (10 : Int32) w = 0) ↔ ((d22 + 2 * d23 = 3) ∨ (d22 + 2 * d23 = 2 ∧ ¬ d30 + 2 * d31 = 2) ∨ (¬ d22 + 2 * d23 = 2 ∧ d30 + 2 * d31 = 1)) := by
  have h9 := h
  obtain ⟨⟨b0, b4, b5, b10, b11, b12, b13, b15, b16, b21, b22, b23, b24, b25, b26, b29, b30, b31⟩, hn⟩ := h9
  clear hn
  unfold fX0_isAllowed
  rw [if_neg (by decide), if_neg (by decide), if_neg (by decide), if_neg (by decide), if_neg (by decide), if_neg (by decide), if_pos rfl]
  simp only [fX0_isTwo, fX0_isCondition, fX0_isLoad, z0_moved h, z0_long h, q_1 h, q_2 h, q_3 h, q_4 h, q_5 h, q_6 h, q_7 h, q_8 h, q_90 h, q_91 h, q_92 h, q_93 h, q_94 h, q_95 h, q_96 h, q_97 h, q_98 h, q_99 h, q_100 h, q_101 h]
  clear h
  repeat' split
  all_goals first | exact ⟨fun _ => by omega, fun _ => rfl⟩ | exact ⟨fun g => absurd g (by decide), fun g => by exfalso; omega⟩
set_option maxHeartbeats 8000000 in
set_option maxRecDepth 100000 in
theorem al_11 {w : Int32} {d0 d4 d5 d10 d11 d12 d13 d15 d16 d21 d22 d23 d24 d25 d26 d29 d30 d31 : Nat} (h : dg_ok w d0 d4 d5 d10 d11 d12 d13 d15 d16 d21 d22 d23 d24 d25 d26 d29 d30 d31) : (fX0_isAllowed (11 : Int32) w = 0) ↔ (d23 + 2 * d24 = 0 ∨ (¬ d23 + 2 * d24 = 2 ∧ ¬ d5 = 31 ∧ (d5 = d0 + 16 * d4 ∨ d5 = d10 + 2 * d11 + 4 * d12 + 8 * d13)) ∨ (d22 = 1 ∧ d0 + 16 * d4 = d10 + 2 * d11 + 4 * d12 + 8 * d13)) := by
  unfold fX0_isAllowed
  rw [if_neg (by decide), if_neg (by decide), if_neg (by decide), if_neg (by decide), if_neg (by decide), if_neg (by decide), if_neg (by decide), if_pos rfl]
  exact z0_pair h
set_option maxHeartbeats 8000000 in
set_option maxRecDepth 100000 in
theorem al_12 (w : Int32) : ¬ fX0_isAllowed (12 : Int32) w = 0 := by
  unfold fX0_isAllowed
  rw [if_neg (by decide), if_neg (by decide), if_neg (by decide), if_neg (by decide), if_neg (by decide), if_neg (by decide), if_neg (by decide), if_neg (by decide), if_neg (by decide)]
  decide
set_option maxHeartbeats 8000000 in
set_option maxRecDepth 100000 in
theorem al_13 (w : Int32) : ¬ fX0_isAllowed (13 : Int32) w = 0 := by
  unfold fX0_isAllowed
  rw [if_neg (by decide), if_neg (by decide), if_neg (by decide), if_neg (by decide), if_neg (by decide), if_neg (by decide), if_neg (by decide), if_neg (by decide), if_neg (by decide)]
  decide
set_option maxHeartbeats 8000000 in
set_option maxRecDepth 100000 in
theorem al_14 {w : Int32} {d0 d4 d5 d10 d11 d12 d13 d15 d16 d21 d22 d23 d24 d25 d26 d29 d30 d31 : Nat} (h : dg_ok w d0 d4 d5 d10 d11 d12 d13 d15 d16 d21 d22 d23 d24 d25 d26 d29 d30 d31) : (fX0_isAllowed (14 : Int32) w = 0) ↔ (13 < d0) := by
  have h9 := h
  obtain ⟨⟨b0, b4, b5, b10, b11, b12, b13, b15, b16, b21, b22, b23, b24, b25, b26, b29, b30, b31⟩, hn⟩ := h9
  clear hn
  unfold fX0_isAllowed
  rw [if_neg (by decide), if_neg (by decide), if_neg (by decide), if_neg (by decide), if_neg (by decide), if_neg (by decide), if_neg (by decide), if_neg (by decide), if_pos rfl]
  simp only [fX0_isTwo, fX0_isCondition, fX0_isLoad, z0_moved h, z0_long h, q_1 h, q_2 h, q_3 h, q_4 h, q_5 h, q_6 h, q_7 h, q_8 h, q_90 h, q_91 h, q_92 h, q_93 h, q_94 h, q_95 h, q_96 h, q_97 h, q_98 h, q_99 h, q_100 h, q_101 h]
  clear h
  repeat' split
  all_goals first | exact ⟨fun _ => by omega, fun _ => rfl⟩ | exact ⟨fun g => absurd g (by decide), fun g => by exfalso; omega⟩
set_option maxHeartbeats 8000000 in
set_option maxRecDepth 100000 in
theorem al_15 (w : Int32) : ¬ fX0_isAllowed (15 : Int32) w = 0 := by
  unfold fX0_isAllowed
  rw [if_neg (by decide), if_neg (by decide), if_neg (by decide), if_neg (by decide), if_neg (by decide), if_neg (by decide), if_neg (by decide), if_neg (by decide), if_neg (by decide)]
  decide
set_option maxHeartbeats 8000000 in
set_option maxRecDepth 100000 in
theorem al_16 (w : Int32) : ¬ fX0_isAllowed (16 : Int32) w = 0 := by
  unfold fX0_isAllowed
  rw [if_neg (by decide), if_neg (by decide), if_neg (by decide), if_neg (by decide), if_neg (by decide), if_neg (by decide), if_neg (by decide), if_neg (by decide), if_neg (by decide)]
  decide
set_option maxHeartbeats 8000000 in
set_option maxRecDepth 100000 in
theorem al_17 (w : Int32) : ¬ fX0_isAllowed (17 : Int32) w = 0 := by
  unfold fX0_isAllowed
  rw [if_neg (by decide), if_neg (by decide), if_neg (by decide), if_neg (by decide), if_neg (by decide), if_neg (by decide), if_neg (by decide), if_neg (by decide), if_neg (by decide)]
  decide
set_option maxHeartbeats 8000000 in
set_option maxRecDepth 100000 in
theorem al_18 (w : Int32) : ¬ fX0_isAllowed (18 : Int32) w = 0 := by
  unfold fX0_isAllowed
  rw [if_neg (by decide), if_neg (by decide), if_neg (by decide), if_neg (by decide), if_neg (by decide), if_neg (by decide), if_neg (by decide), if_neg (by decide), if_neg (by decide)]
  decide
set_option maxHeartbeats 8000000 in
set_option maxRecDepth 100000 in
theorem al_19 (w : Int32) : ¬ fX0_isAllowed (19 : Int32) w = 0 := by
  unfold fX0_isAllowed
  rw [if_neg (by decide), if_neg (by decide), if_neg (by decide), if_neg (by decide), if_neg (by decide), if_neg (by decide), if_neg (by decide), if_neg (by decide), if_neg (by decide)]
  decide
set_option maxHeartbeats 8000000 in
set_option maxRecDepth 100000 in
theorem al_20 (w : Int32) : ¬ fX0_isAllowed (20 : Int32) w = 0 := by
  unfold fX0_isAllowed
  rw [if_neg (by decide), if_neg (by decide), if_neg (by decide), if_neg (by decide), if_neg (by decide), if_neg (by decide), if_neg (by decide), if_neg (by decide), if_neg (by decide)]
  decide
set_option maxHeartbeats 8000000 in
set_option maxRecDepth 100000 in
theorem al_21 (w : Int32) : ¬ fX0_isAllowed (21 : Int32) w = 0 := by
  unfold fX0_isAllowed
  rw [if_neg (by decide), if_neg (by decide), if_neg (by decide), if_neg (by decide), if_neg (by decide), if_neg (by decide), if_neg (by decide), if_neg (by decide), if_neg (by decide)]
  decide
def cN (d0 d4 d5 d10 d11 d12 d13 d15 d16 d21 d22 d23 d24 d25 d26 d29 d30 d31 : Nat) : Int32 := (if d23 + 2 * d24 + 4 * d25 + 8 * d26 = 34 then (1 : Int32) else (if d24 + 2 * d25 + 4 * d26 = 11 ∧ d21 = 0 then (if d22 + 2 * d23 = 3 ∨ (d31 = 0 ∧ d15 = 1) then (0 : Int32) else (2 : Int32)) else (if d24 + 2 * d25 + 4 * d26 = 10 then (if d31 = 0 ∧ d15 = 1 then (0 : Int32) else (3 : Int32)) else (if d23 + 2 * d24 + 4 * d25 + 8 * d26 = 37 then (if d29 + 2 * d30 = 1 ∨ (d31 = 0 ∧ 2 ≤ d21 + 2 * d22) then (0 : Int32) else (4 : Int32)) else (if d31 = 1 ∧ d24 + 2 * d25 + 4 * d26 = 16 then (5 : Int32) else (if d21 + 2 * d22 + 4 * d23 + 8 * d24 + 16 * d25 + 32 * d26 + 256 * d29 + 512 * d30 = 216 then (6 : Int32) else (if d21 + 2 * d22 + 4 * d23 + 8 * d24 + 16 * d25 + 32 * d26 + 256 * d29 + 512 * d30 = 214 then (if ¬ (d10 + 2 * d11 + 4 * d12 + 8 * d13 + 32 * d15 = 2 ∨ d10 + 2 * d11 + 4 * d12 + 8 * d13 + 32 * d15 = 3 ∨ (8 ≤ d10 + 2 * d11 + 4 * d12 + 8 * d13 + 32 * d15 ∧ d10 + 2 * d11 + 4 * d12 + 8 * d13 + 32 * d15 ≤ 10)) then (0 : Int32) else (7 : Int32)) else (if d21 + 2 * d22 + 4 * d23 + 8 * d24 + 16 * d25 + 32 * d26 + 256 * d29 + 512 * d30 = 212 ∧ d11 = 0 then (if 13 < d12 + 2 * d13 + 8 * d15 then (0 : Int32) else (8 : Int32)) else (if d24 + 2 * d25 + 4 * d26 + 32 * d29 = 57 then (if (d22 + 2 * d23 = 3) ∨ (d22 + 2 * d23 = 2 ∧ ¬ d30 + 2 * d31 = 2) ∨ (¬ d22 + 2 * d23 = 2 ∧ d30 + 2 * d31 = 1) then (0 : Int32) else (9 : Int32)) else (if d24 + 2 * d25 + 4 * d26 + 32 * d29 = 56 ∧ d21 = 1 ∧ d13 + 4 * d15 = 3 ∧ d10 + 2 * d11 = 2 then (if (d22 + 2 * d23 = 3) ∨ (d22 + 2 * d23 = 2 ∧ ¬ d30 + 2 * d31 = 2) ∨ (¬ d22 + 2 * d23 = 2 ∧ d30 + 2 * d31 = 1) then (0 : Int32) else (10 : Int32)) else (if d25 + 2 * d26 + 16 * d29 + 32 * d30 + 64 * d31 = 84 then (if d23 + 2 * d24 = 0 ∨ (¬ d23 + 2 * d24 = 2 ∧ ¬ d5 = 31 ∧ (d5 = d0 + 16 * d4 ∨ d5 = d10 + 2 * d11 + 4 * d12 + 8 * d13)) ∨ (d22 = 1 ∧ d0 + 16 * d4 = d10 + 2 * d11 + 4 * d12 + 8 * d13) then (0 : Int32) else (11 : Int32)) else (if d26 + 8 * d29 + 16 * d30 + 32 * d31 = 5 then (12 : Int32) else (if d26 + 8 * d29 + 16 * d30 + 32 * d31 = 37 then (13 : Int32) else (if d24 + 2 * d25 + 4 * d26 + 32 * d29 + 64 * d30 + 128 * d31 = 84 ∧ d4 = 0 then (if 13 < d0 then (0 : Int32) else (14 : Int32)) else (if d25 + 2 * d26 + 16 * d29 + 32 * d30 = 26 then (15 : Int32) else (if d25 + 2 * d26 + 16 * d29 + 32 * d30 = 27 then (16 : Int32) else (if d10 + 2 * d11 + 4 * d12 + 8 * d13 + 32 * d15 + 64 * d16 + 2048 * d21 + 4096 * d22 + 8192 * d23 + 16384 * d24 + 32768 * d25 + 65536 * d26 + 524288 * d29 + 1048576 * d30 + 2097152 * d31 = 3508160 ∧ d0 + 16 * d4 = 0 then (17 : Int32) else (if d10 + 2 * d11 + 4 * d12 + 8 * d13 + 32 * d15 + 64 * d16 + 2048 * d21 + 4096 * d22 + 8192 * d23 + 16384 * d24 + 32768 * d25 + 65536 * d26 + 524288 * d29 + 1048576 * d30 + 2097152 * d31 = 3510208 ∧ d0 + 16 * d4 = 0 then (18 : Int32) else (if d10 + 2 * d11 + 4 * d12 + 8 * d13 + 32 * d15 + 64 * d16 + 2048 * d21 + 4096 * d22 + 8192 * d23 + 16384 * d24 + 32768 * d25 + 65536 * d26 + 524288 * d29 + 1048576 * d30 + 2097152 * d31 = 3512256 ∧ d0 + 16 * d4 = 0 then (19 : Int32) else (if d21 + 2 * d22 + 4 * d23 + 8 * d24 + 16 * d25 + 32 * d26 + 256 * d29 + 512 * d30 + 1024 * d31 = 1696 ∧ d0 + 16 * d4 = 1 then (20 : Int32) else (if d0 + 16 * d4 + 32 * d5 + 1024 * d10 + 2048 * d11 + 4096 * d12 + 8192 * d13 + 32768 * d15 + 65536 * d16 + 2097152 * d21 + 4194304 * d22 + 8388608 * d23 + 16777216 * d24 + 33554432 * d25 + 67108864 * d26 + 536870912 * d29 + 1073741824 * d30 + 2147483648 * d31 = 3573751839 then (21 : Int32) else (0 : Int32))))))))))))))))))))))
set_option maxHeartbeats 8000000 in
set_option maxRecDepth 100000 in
theorem k0_N {w : Int32} {d0 d4 d5 d10 d11 d12 d13 d15 d16 d21 d22 d23 d24 d25 d26 d29 d30 d31 : Nat} (h : dg_ok w d0 d4 d5 d10 d11 d12 d13 d15 d16 d21 d22 d23 d24 d25 d26 d29 d30 d31) : fX0_kind w = cN d0 d4 d5 d10 d11 d12 d13 d15 d16 d21 d22 d23 d24 d25 d26 d29 d30 d31 := by
  unfold fX0_kind cN
  by_cases r1 : d23 + 2 * d24 + 4 * d25 + 8 * d26 = 34
  · have f : fX0_formOf w = (1 : Int32) := (show fX0_formOf w = ((0 : Int32) / (2 : Int32)) + (1 : Int32) from by rw [fX0_formOf, if_pos ((q_69 h).mpr r1)]).trans (by decide)
    rw [f, if_pos r1, if_neg (al_1 w)]
  by_cases r2 : d24 + 2 * d25 + 4 * d26 = 11 ∧ d21 = 0
  · have f : fX0_formOf w = (2 : Int32) := (show fX0_formOf w = ((2 : Int32) / (2 : Int32)) + (1 : Int32) from by rw [fX0_formOf, if_neg (mt (q_69 h).mp r1), if_pos ((q_70 h).mpr r2)]).trans (by decide)
    rw [f, if_neg r1, if_pos r2]
    simp only [al_2 h]
  by_cases r3 : d24 + 2 * d25 + 4 * d26 = 10
  · have f : fX0_formOf w = (3 : Int32) := (show fX0_formOf w = ((4 : Int32) / (2 : Int32)) + (1 : Int32) from by rw [fX0_formOf, if_neg (mt (q_69 h).mp r1), if_neg (mt (q_70 h).mp r2), if_pos ((q_71 h).mpr r3)]).trans (by decide)
    rw [f, if_neg r1, if_neg r2, if_pos r3]
    simp only [al_3 h]
  by_cases r4 : d23 + 2 * d24 + 4 * d25 + 8 * d26 = 37
  · have f : fX0_formOf w = (4 : Int32) := (show fX0_formOf w = ((6 : Int32) / (2 : Int32)) + (1 : Int32) from by rw [fX0_formOf, if_neg (mt (q_69 h).mp r1), if_neg (mt (q_70 h).mp r2), if_neg (mt (q_71 h).mp r3), if_pos ((q_72 h).mpr r4)]).trans (by decide)
    rw [f, if_neg r1, if_neg r2, if_neg r3, if_pos r4]
    simp only [al_4 h]
  by_cases r5 : d31 = 1 ∧ d24 + 2 * d25 + 4 * d26 = 16
  · have f : fX0_formOf w = (5 : Int32) := (show fX0_formOf w = ((8 : Int32) / (2 : Int32)) + (1 : Int32) from by rw [fX0_formOf, if_neg (mt (q_69 h).mp r1), if_neg (mt (q_70 h).mp r2), if_neg (mt (q_71 h).mp r3), if_neg (mt (q_72 h).mp r4), if_pos ((q_73 h).mpr r5)]).trans (by decide)
    rw [f, if_neg r1, if_neg r2, if_neg r3, if_neg r4, if_pos r5, if_neg (al_5 w)]
  by_cases r6 : d21 + 2 * d22 + 4 * d23 + 8 * d24 + 16 * d25 + 32 * d26 + 256 * d29 + 512 * d30 = 216
  · have f : fX0_formOf w = (6 : Int32) := (show fX0_formOf w = ((10 : Int32) / (2 : Int32)) + (1 : Int32) from by rw [fX0_formOf, if_neg (mt (q_69 h).mp r1), if_neg (mt (q_70 h).mp r2), if_neg (mt (q_71 h).mp r3), if_neg (mt (q_72 h).mp r4), if_neg (mt (q_73 h).mp r5), if_pos ((q_74 h).mpr r6)]).trans (by decide)
    rw [f, if_neg r1, if_neg r2, if_neg r3, if_neg r4, if_neg r5, if_pos r6, if_neg (al_6 w)]
  by_cases r7 : d21 + 2 * d22 + 4 * d23 + 8 * d24 + 16 * d25 + 32 * d26 + 256 * d29 + 512 * d30 = 214
  · have f : fX0_formOf w = (7 : Int32) := (show fX0_formOf w = ((12 : Int32) / (2 : Int32)) + (1 : Int32) from by rw [fX0_formOf, if_neg (mt (q_69 h).mp r1), if_neg (mt (q_70 h).mp r2), if_neg (mt (q_71 h).mp r3), if_neg (mt (q_72 h).mp r4), if_neg (mt (q_73 h).mp r5), if_neg (mt (q_74 h).mp r6), if_pos ((q_75 h).mpr r7)]).trans (by decide)
    rw [f, if_neg r1, if_neg r2, if_neg r3, if_neg r4, if_neg r5, if_neg r6, if_pos r7]
    simp only [al_7 h]
  by_cases r8 : d21 + 2 * d22 + 4 * d23 + 8 * d24 + 16 * d25 + 32 * d26 + 256 * d29 + 512 * d30 = 212 ∧ d11 = 0
  · have f : fX0_formOf w = (8 : Int32) := (show fX0_formOf w = ((14 : Int32) / (2 : Int32)) + (1 : Int32) from by rw [fX0_formOf, if_neg (mt (q_69 h).mp r1), if_neg (mt (q_70 h).mp r2), if_neg (mt (q_71 h).mp r3), if_neg (mt (q_72 h).mp r4), if_neg (mt (q_73 h).mp r5), if_neg (mt (q_74 h).mp r6), if_neg (mt (q_75 h).mp r7), if_pos ((q_76 h).mpr r8)]).trans (by decide)
    rw [f, if_neg r1, if_neg r2, if_neg r3, if_neg r4, if_neg r5, if_neg r6, if_neg r7, if_pos r8]
    simp only [al_8 h]
  by_cases r9 : d24 + 2 * d25 + 4 * d26 + 32 * d29 = 57
  · have f : fX0_formOf w = (9 : Int32) := (show fX0_formOf w = ((16 : Int32) / (2 : Int32)) + (1 : Int32) from by rw [fX0_formOf, if_neg (mt (q_69 h).mp r1), if_neg (mt (q_70 h).mp r2), if_neg (mt (q_71 h).mp r3), if_neg (mt (q_72 h).mp r4), if_neg (mt (q_73 h).mp r5), if_neg (mt (q_74 h).mp r6), if_neg (mt (q_75 h).mp r7), if_neg (mt (q_76 h).mp r8), if_pos ((q_77 h).mpr r9)]).trans (by decide)
    rw [f, if_neg r1, if_neg r2, if_neg r3, if_neg r4, if_neg r5, if_neg r6, if_neg r7, if_neg r8, if_pos r9]
    simp only [al_9 h]
  by_cases r10 : d24 + 2 * d25 + 4 * d26 + 32 * d29 = 56 ∧ d21 = 1 ∧ d13 + 4 * d15 = 3 ∧ d10 + 2 * d11 = 2
  · have f : fX0_formOf w = (10 : Int32) := (show fX0_formOf w = ((18 : Int32) / (2 : Int32)) + (1 : Int32) from by rw [fX0_formOf, if_neg (mt (q_69 h).mp r1), if_neg (mt (q_70 h).mp r2), if_neg (mt (q_71 h).mp r3), if_neg (mt (q_72 h).mp r4), if_neg (mt (q_73 h).mp r5), if_neg (mt (q_74 h).mp r6), if_neg (mt (q_75 h).mp r7), if_neg (mt (q_76 h).mp r8), if_neg (mt (q_77 h).mp r9), if_pos ((q_78 h).mpr r10)]).trans (by decide)
    rw [f, if_neg r1, if_neg r2, if_neg r3, if_neg r4, if_neg r5, if_neg r6, if_neg r7, if_neg r8, if_neg r9, if_pos r10]
    simp only [al_10 h]
  by_cases r11 : d25 + 2 * d26 + 16 * d29 + 32 * d30 + 64 * d31 = 84
  · have f : fX0_formOf w = (11 : Int32) := (show fX0_formOf w = ((20 : Int32) / (2 : Int32)) + (1 : Int32) from by rw [fX0_formOf, if_neg (mt (q_69 h).mp r1), if_neg (mt (q_70 h).mp r2), if_neg (mt (q_71 h).mp r3), if_neg (mt (q_72 h).mp r4), if_neg (mt (q_73 h).mp r5), if_neg (mt (q_74 h).mp r6), if_neg (mt (q_75 h).mp r7), if_neg (mt (q_76 h).mp r8), if_neg (mt (q_77 h).mp r9), if_neg (mt (q_78 h).mp r10), if_pos ((q_79 h).mpr r11)]).trans (by decide)
    rw [f, if_neg r1, if_neg r2, if_neg r3, if_neg r4, if_neg r5, if_neg r6, if_neg r7, if_neg r8, if_neg r9, if_neg r10, if_pos r11]
    simp only [al_11 h]
  by_cases r12 : d26 + 8 * d29 + 16 * d30 + 32 * d31 = 5
  · have f : fX0_formOf w = (12 : Int32) := (show fX0_formOf w = ((22 : Int32) / (2 : Int32)) + (1 : Int32) from by rw [fX0_formOf, if_neg (mt (q_69 h).mp r1), if_neg (mt (q_70 h).mp r2), if_neg (mt (q_71 h).mp r3), if_neg (mt (q_72 h).mp r4), if_neg (mt (q_73 h).mp r5), if_neg (mt (q_74 h).mp r6), if_neg (mt (q_75 h).mp r7), if_neg (mt (q_76 h).mp r8), if_neg (mt (q_77 h).mp r9), if_neg (mt (q_78 h).mp r10), if_neg (mt (q_79 h).mp r11), if_pos ((q_80 h).mpr r12)]).trans (by decide)
    rw [f, if_neg r1, if_neg r2, if_neg r3, if_neg r4, if_neg r5, if_neg r6, if_neg r7, if_neg r8, if_neg r9, if_neg r10, if_neg r11, if_pos r12, if_neg (al_12 w)]
  by_cases r13 : d26 + 8 * d29 + 16 * d30 + 32 * d31 = 37
  · have f : fX0_formOf w = (13 : Int32) := (show fX0_formOf w = ((24 : Int32) / (2 : Int32)) + (1 : Int32) from by rw [fX0_formOf, if_neg (mt (q_69 h).mp r1), if_neg (mt (q_70 h).mp r2), if_neg (mt (q_71 h).mp r3), if_neg (mt (q_72 h).mp r4), if_neg (mt (q_73 h).mp r5), if_neg (mt (q_74 h).mp r6), if_neg (mt (q_75 h).mp r7), if_neg (mt (q_76 h).mp r8), if_neg (mt (q_77 h).mp r9), if_neg (mt (q_78 h).mp r10), if_neg (mt (q_79 h).mp r11), if_neg (mt (q_80 h).mp r12), if_pos ((q_81 h).mpr r13)]).trans (by decide)
    rw [f, if_neg r1, if_neg r2, if_neg r3, if_neg r4, if_neg r5, if_neg r6, if_neg r7, if_neg r8, if_neg r9, if_neg r10, if_neg r11, if_neg r12, if_pos r13, if_neg (al_13 w)]
  by_cases r14 : d24 + 2 * d25 + 4 * d26 + 32 * d29 + 64 * d30 + 128 * d31 = 84 ∧ d4 = 0
  · have f : fX0_formOf w = (14 : Int32) := (show fX0_formOf w = ((26 : Int32) / (2 : Int32)) + (1 : Int32) from by rw [fX0_formOf, if_neg (mt (q_69 h).mp r1), if_neg (mt (q_70 h).mp r2), if_neg (mt (q_71 h).mp r3), if_neg (mt (q_72 h).mp r4), if_neg (mt (q_73 h).mp r5), if_neg (mt (q_74 h).mp r6), if_neg (mt (q_75 h).mp r7), if_neg (mt (q_76 h).mp r8), if_neg (mt (q_77 h).mp r9), if_neg (mt (q_78 h).mp r10), if_neg (mt (q_79 h).mp r11), if_neg (mt (q_80 h).mp r12), if_neg (mt (q_81 h).mp r13), if_pos ((q_82 h).mpr r14)]).trans (by decide)
    rw [f, if_neg r1, if_neg r2, if_neg r3, if_neg r4, if_neg r5, if_neg r6, if_neg r7, if_neg r8, if_neg r9, if_neg r10, if_neg r11, if_neg r12, if_neg r13, if_pos r14]
    simp only [al_14 h]
  by_cases r15 : d25 + 2 * d26 + 16 * d29 + 32 * d30 = 26
  · have f : fX0_formOf w = (15 : Int32) := (show fX0_formOf w = ((28 : Int32) / (2 : Int32)) + (1 : Int32) from by rw [fX0_formOf, if_neg (mt (q_69 h).mp r1), if_neg (mt (q_70 h).mp r2), if_neg (mt (q_71 h).mp r3), if_neg (mt (q_72 h).mp r4), if_neg (mt (q_73 h).mp r5), if_neg (mt (q_74 h).mp r6), if_neg (mt (q_75 h).mp r7), if_neg (mt (q_76 h).mp r8), if_neg (mt (q_77 h).mp r9), if_neg (mt (q_78 h).mp r10), if_neg (mt (q_79 h).mp r11), if_neg (mt (q_80 h).mp r12), if_neg (mt (q_81 h).mp r13), if_neg (mt (q_82 h).mp r14), if_pos ((q_83 h).mpr r15)]).trans (by decide)
    rw [f, if_neg r1, if_neg r2, if_neg r3, if_neg r4, if_neg r5, if_neg r6, if_neg r7, if_neg r8, if_neg r9, if_neg r10, if_neg r11, if_neg r12, if_neg r13, if_neg r14, if_pos r15, if_neg (al_15 w)]
  by_cases r16 : d25 + 2 * d26 + 16 * d29 + 32 * d30 = 27
  · have f : fX0_formOf w = (16 : Int32) := (show fX0_formOf w = ((30 : Int32) / (2 : Int32)) + (1 : Int32) from by rw [fX0_formOf, if_neg (mt (q_69 h).mp r1), if_neg (mt (q_70 h).mp r2), if_neg (mt (q_71 h).mp r3), if_neg (mt (q_72 h).mp r4), if_neg (mt (q_73 h).mp r5), if_neg (mt (q_74 h).mp r6), if_neg (mt (q_75 h).mp r7), if_neg (mt (q_76 h).mp r8), if_neg (mt (q_77 h).mp r9), if_neg (mt (q_78 h).mp r10), if_neg (mt (q_79 h).mp r11), if_neg (mt (q_80 h).mp r12), if_neg (mt (q_81 h).mp r13), if_neg (mt (q_82 h).mp r14), if_neg (mt (q_83 h).mp r15), if_pos ((q_84 h).mpr r16)]).trans (by decide)
    rw [f, if_neg r1, if_neg r2, if_neg r3, if_neg r4, if_neg r5, if_neg r6, if_neg r7, if_neg r8, if_neg r9, if_neg r10, if_neg r11, if_neg r12, if_neg r13, if_neg r14, if_neg r15, if_pos r16, if_neg (al_16 w)]
  by_cases r17 : d10 + 2 * d11 + 4 * d12 + 8 * d13 + 32 * d15 + 64 * d16 + 2048 * d21 + 4096 * d22 + 8192 * d23 + 16384 * d24 + 32768 * d25 + 65536 * d26 + 524288 * d29 + 1048576 * d30 + 2097152 * d31 = 3508160 ∧ d0 + 16 * d4 = 0
  · have f : fX0_formOf w = (17 : Int32) := (show fX0_formOf w = ((32 : Int32) / (2 : Int32)) + (1 : Int32) from by rw [fX0_formOf, if_neg (mt (q_69 h).mp r1), if_neg (mt (q_70 h).mp r2), if_neg (mt (q_71 h).mp r3), if_neg (mt (q_72 h).mp r4), if_neg (mt (q_73 h).mp r5), if_neg (mt (q_74 h).mp r6), if_neg (mt (q_75 h).mp r7), if_neg (mt (q_76 h).mp r8), if_neg (mt (q_77 h).mp r9), if_neg (mt (q_78 h).mp r10), if_neg (mt (q_79 h).mp r11), if_neg (mt (q_80 h).mp r12), if_neg (mt (q_81 h).mp r13), if_neg (mt (q_82 h).mp r14), if_neg (mt (q_83 h).mp r15), if_neg (mt (q_84 h).mp r16), if_pos ((q_85 h).mpr r17)]).trans (by decide)
    rw [f, if_neg r1, if_neg r2, if_neg r3, if_neg r4, if_neg r5, if_neg r6, if_neg r7, if_neg r8, if_neg r9, if_neg r10, if_neg r11, if_neg r12, if_neg r13, if_neg r14, if_neg r15, if_neg r16, if_pos r17, if_neg (al_17 w)]
  by_cases r18 : d10 + 2 * d11 + 4 * d12 + 8 * d13 + 32 * d15 + 64 * d16 + 2048 * d21 + 4096 * d22 + 8192 * d23 + 16384 * d24 + 32768 * d25 + 65536 * d26 + 524288 * d29 + 1048576 * d30 + 2097152 * d31 = 3510208 ∧ d0 + 16 * d4 = 0
  · have f : fX0_formOf w = (18 : Int32) := (show fX0_formOf w = ((34 : Int32) / (2 : Int32)) + (1 : Int32) from by rw [fX0_formOf, if_neg (mt (q_69 h).mp r1), if_neg (mt (q_70 h).mp r2), if_neg (mt (q_71 h).mp r3), if_neg (mt (q_72 h).mp r4), if_neg (mt (q_73 h).mp r5), if_neg (mt (q_74 h).mp r6), if_neg (mt (q_75 h).mp r7), if_neg (mt (q_76 h).mp r8), if_neg (mt (q_77 h).mp r9), if_neg (mt (q_78 h).mp r10), if_neg (mt (q_79 h).mp r11), if_neg (mt (q_80 h).mp r12), if_neg (mt (q_81 h).mp r13), if_neg (mt (q_82 h).mp r14), if_neg (mt (q_83 h).mp r15), if_neg (mt (q_84 h).mp r16), if_neg (mt (q_85 h).mp r17), if_pos ((q_86 h).mpr r18)]).trans (by decide)
    rw [f, if_neg r1, if_neg r2, if_neg r3, if_neg r4, if_neg r5, if_neg r6, if_neg r7, if_neg r8, if_neg r9, if_neg r10, if_neg r11, if_neg r12, if_neg r13, if_neg r14, if_neg r15, if_neg r16, if_neg r17, if_pos r18, if_neg (al_18 w)]
  by_cases r19 : d10 + 2 * d11 + 4 * d12 + 8 * d13 + 32 * d15 + 64 * d16 + 2048 * d21 + 4096 * d22 + 8192 * d23 + 16384 * d24 + 32768 * d25 + 65536 * d26 + 524288 * d29 + 1048576 * d30 + 2097152 * d31 = 3512256 ∧ d0 + 16 * d4 = 0
  · have f : fX0_formOf w = (19 : Int32) := (show fX0_formOf w = ((36 : Int32) / (2 : Int32)) + (1 : Int32) from by rw [fX0_formOf, if_neg (mt (q_69 h).mp r1), if_neg (mt (q_70 h).mp r2), if_neg (mt (q_71 h).mp r3), if_neg (mt (q_72 h).mp r4), if_neg (mt (q_73 h).mp r5), if_neg (mt (q_74 h).mp r6), if_neg (mt (q_75 h).mp r7), if_neg (mt (q_76 h).mp r8), if_neg (mt (q_77 h).mp r9), if_neg (mt (q_78 h).mp r10), if_neg (mt (q_79 h).mp r11), if_neg (mt (q_80 h).mp r12), if_neg (mt (q_81 h).mp r13), if_neg (mt (q_82 h).mp r14), if_neg (mt (q_83 h).mp r15), if_neg (mt (q_84 h).mp r16), if_neg (mt (q_85 h).mp r17), if_neg (mt (q_86 h).mp r18), if_pos ((q_87 h).mpr r19)]).trans (by decide)
    rw [f, if_neg r1, if_neg r2, if_neg r3, if_neg r4, if_neg r5, if_neg r6, if_neg r7, if_neg r8, if_neg r9, if_neg r10, if_neg r11, if_neg r12, if_neg r13, if_neg r14, if_neg r15, if_neg r16, if_neg r17, if_neg r18, if_pos r19, if_neg (al_19 w)]
  by_cases r20 : d21 + 2 * d22 + 4 * d23 + 8 * d24 + 16 * d25 + 32 * d26 + 256 * d29 + 512 * d30 + 1024 * d31 = 1696 ∧ d0 + 16 * d4 = 1
  · have f : fX0_formOf w = (20 : Int32) := (show fX0_formOf w = ((38 : Int32) / (2 : Int32)) + (1 : Int32) from by rw [fX0_formOf, if_neg (mt (q_69 h).mp r1), if_neg (mt (q_70 h).mp r2), if_neg (mt (q_71 h).mp r3), if_neg (mt (q_72 h).mp r4), if_neg (mt (q_73 h).mp r5), if_neg (mt (q_74 h).mp r6), if_neg (mt (q_75 h).mp r7), if_neg (mt (q_76 h).mp r8), if_neg (mt (q_77 h).mp r9), if_neg (mt (q_78 h).mp r10), if_neg (mt (q_79 h).mp r11), if_neg (mt (q_80 h).mp r12), if_neg (mt (q_81 h).mp r13), if_neg (mt (q_82 h).mp r14), if_neg (mt (q_83 h).mp r15), if_neg (mt (q_84 h).mp r16), if_neg (mt (q_85 h).mp r17), if_neg (mt (q_86 h).mp r18), if_neg (mt (q_87 h).mp r19), if_pos ((q_88 h).mpr r20)]).trans (by decide)
    rw [f, if_neg r1, if_neg r2, if_neg r3, if_neg r4, if_neg r5, if_neg r6, if_neg r7, if_neg r8, if_neg r9, if_neg r10, if_neg r11, if_neg r12, if_neg r13, if_neg r14, if_neg r15, if_neg r16, if_neg r17, if_neg r18, if_neg r19, if_pos r20, if_neg (al_20 w)]
  by_cases r21 : d0 + 16 * d4 + 32 * d5 + 1024 * d10 + 2048 * d11 + 4096 * d12 + 8192 * d13 + 32768 * d15 + 65536 * d16 + 2097152 * d21 + 4194304 * d22 + 8388608 * d23 + 16777216 * d24 + 33554432 * d25 + 67108864 * d26 + 536870912 * d29 + 1073741824 * d30 + 2147483648 * d31 = 3573751839
  · have f : fX0_formOf w = (21 : Int32) := (show fX0_formOf w = ((40 : Int32) / (2 : Int32)) + (1 : Int32) from by rw [fX0_formOf, if_neg (mt (q_69 h).mp r1), if_neg (mt (q_70 h).mp r2), if_neg (mt (q_71 h).mp r3), if_neg (mt (q_72 h).mp r4), if_neg (mt (q_73 h).mp r5), if_neg (mt (q_74 h).mp r6), if_neg (mt (q_75 h).mp r7), if_neg (mt (q_76 h).mp r8), if_neg (mt (q_77 h).mp r9), if_neg (mt (q_78 h).mp r10), if_neg (mt (q_79 h).mp r11), if_neg (mt (q_80 h).mp r12), if_neg (mt (q_81 h).mp r13), if_neg (mt (q_82 h).mp r14), if_neg (mt (q_83 h).mp r15), if_neg (mt (q_84 h).mp r16), if_neg (mt (q_85 h).mp r17), if_neg (mt (q_86 h).mp r18), if_neg (mt (q_87 h).mp r19), if_neg (mt (q_88 h).mp r20), if_pos ((q_89 h).mpr r21)]).trans (by decide)
    rw [f, if_neg r1, if_neg r2, if_neg r3, if_neg r4, if_neg r5, if_neg r6, if_neg r7, if_neg r8, if_neg r9, if_neg r10, if_neg r11, if_neg r12, if_neg r13, if_neg r14, if_neg r15, if_neg r16, if_neg r17, if_neg r18, if_neg r19, if_neg r20, if_pos r21, if_neg (al_21 w)]
  have f : fX0_formOf w = 0 := by rw [fX0_formOf, if_neg (mt (q_69 h).mp r1), if_neg (mt (q_70 h).mp r2), if_neg (mt (q_71 h).mp r3), if_neg (mt (q_72 h).mp r4), if_neg (mt (q_73 h).mp r5), if_neg (mt (q_74 h).mp r6), if_neg (mt (q_75 h).mp r7), if_neg (mt (q_76 h).mp r8), if_neg (mt (q_77 h).mp r9), if_neg (mt (q_78 h).mp r10), if_neg (mt (q_79 h).mp r11), if_neg (mt (q_80 h).mp r12), if_neg (mt (q_81 h).mp r13), if_neg (mt (q_82 h).mp r14), if_neg (mt (q_83 h).mp r15), if_neg (mt (q_84 h).mp r16), if_neg (mt (q_85 h).mp r17), if_neg (mt (q_86 h).mp r18), if_neg (mt (q_87 h).mp r19), if_neg (mt (q_88 h).mp r20), if_neg (mt (q_89 h).mp r21)]
  rw [f, if_neg r1, if_neg r2, if_neg r3, if_neg r4, if_neg r5, if_neg r6, if_neg r7, if_neg r8, if_neg r9, if_neg r10, if_neg r11, if_neg r12, if_neg r13, if_neg r14, if_neg r15, if_neg r16, if_neg r17, if_neg r18, if_neg r19, if_neg r20, if_neg r21]
  split <;> rfl
end
section
set_option maxHeartbeats 40000000 in
set_option maxRecDepth 100000 in
theorem kk_eq {d0 d4 d5 d10 d11 d12 d13 d15 d16 d21 d22 d23 d24 d25 d26 d29 d30 d31 : Nat} (hb : d0 < 16 ∧ d4 < 2 ∧ d5 < 32 ∧ d10 < 2 ∧ d11 < 2 ∧ d12 < 2 ∧ d13 < 4 ∧ d15 < 2 ∧ d16 < 32 ∧ d21 < 2 ∧ d22 < 2 ∧ d23 < 2 ∧ d24 < 2 ∧ d25 < 2 ∧ d26 < 8 ∧ d29 < 2 ∧ d30 < 2 ∧ d31 < 2) : cN d0 d4 d5 d10 d11 d12 d13 d15 d16 d21 d22 d23 d24 d25 d26 d29 d30 d31 = kN d0 d4 d5 d10 d11 d12 d13 d15 d16 d21 d22 d23 d24 d25 d26 d29 d30 d31 := by
  obtain ⟨b0, b4, b5, b10, b11, b12, b13, b15, b16, b21, b22, b23, b24, b25, b26, b29, b30, b31⟩ := hb
  unfold cN
  by_cases r1 : d23 + 2 * d24 + 4 * d25 + 8 * d26 = 34
  · rw [if_pos r1]
    unfold kN
    simp (disch := omega) only [↓if_pos, ↓if_neg]
  rw [if_neg r1]
  have g1 : Unit → ¬ (d23 + 2 * d24 + 4 * d25 + 8 * d26 = 34) := fun _ => r1
  clear r1
  by_cases r2 : d24 + 2 * d25 + 4 * d26 = 11 ∧ d21 = 0
  · rw [if_pos r2]
    unfold kN
    simp (disch := omega) only [↓if_pos, ↓if_neg]
    repeat' split
    all_goals first | rfl | (exfalso; omega)
  rw [if_neg r2]
  have g2 : Unit → ¬ (d24 + 2 * d25 + 4 * d26 = 11 ∧ d21 = 0) := fun _ => r2
  clear r2
  by_cases r3 : d24 + 2 * d25 + 4 * d26 = 10
  · rw [if_pos r3]
    unfold kN
    simp (disch := omega) only [↓if_pos, ↓if_neg]
    repeat' split
    all_goals first | rfl | (exfalso; omega)
  rw [if_neg r3]
  have g3 : Unit → ¬ (d24 + 2 * d25 + 4 * d26 = 10) := fun _ => r3
  clear r3
  by_cases r4 : d23 + 2 * d24 + 4 * d25 + 8 * d26 = 37
  · rw [if_pos r4]
    unfold kN
    simp (disch := omega) only [↓if_pos, ↓if_neg]
    repeat' split
    all_goals first | rfl | (exfalso; omega)
  rw [if_neg r4]
  have g4 : Unit → ¬ (d23 + 2 * d24 + 4 * d25 + 8 * d26 = 37) := fun _ => r4
  clear r4
  by_cases r5 : d31 = 1 ∧ d24 + 2 * d25 + 4 * d26 = 16
  · rw [if_pos r5]
    unfold kN
    simp (disch := omega) only [↓if_pos, ↓if_neg]
  rw [if_neg r5]
  have g5 : Unit → ¬ (d31 = 1 ∧ d24 + 2 * d25 + 4 * d26 = 16) := fun _ => r5
  clear r5
  by_cases r6 : d21 + 2 * d22 + 4 * d23 + 8 * d24 + 16 * d25 + 32 * d26 + 256 * d29 + 512 * d30 = 216
  · rw [if_pos r6]
    unfold kN
    simp (disch := omega) only [↓if_pos, ↓if_neg]
  rw [if_neg r6]
  have g6 : Unit → ¬ (d21 + 2 * d22 + 4 * d23 + 8 * d24 + 16 * d25 + 32 * d26 + 256 * d29 + 512 * d30 = 216) := fun _ => r6
  clear r6
  by_cases r7 : d21 + 2 * d22 + 4 * d23 + 8 * d24 + 16 * d25 + 32 * d26 + 256 * d29 + 512 * d30 = 214
  · rw [if_pos r7]
    unfold kN
    simp (disch := omega) only [↓if_pos, ↓if_neg]
    unfold i2N
    simp (disch := omega) only [↓if_pos, ↓if_neg]
    repeat' split
    all_goals first | rfl | (exfalso; omega)
  rw [if_neg r7]
  have g7 : Unit → ¬ (d21 + 2 * d22 + 4 * d23 + 8 * d24 + 16 * d25 + 32 * d26 + 256 * d29 + 512 * d30 = 214) := fun _ => r7
  clear r7
  by_cases r8 : d21 + 2 * d22 + 4 * d23 + 8 * d24 + 16 * d25 + 32 * d26 + 256 * d29 + 512 * d30 = 212 ∧ d11 = 0
  · rw [if_pos r8]
    unfold kN
    simp (disch := omega) only [↓if_pos, ↓if_neg]
    unfold i2N
    simp (disch := omega) only [↓if_pos, ↓if_neg]
    repeat' split
    all_goals first | rfl | (exfalso; omega)
  rw [if_neg r8]
  have g8 : Unit → ¬ (d21 + 2 * d22 + 4 * d23 + 8 * d24 + 16 * d25 + 32 * d26 + 256 * d29 + 512 * d30 = 212 ∧ d11 = 0) := fun _ => r8
  clear r8
  by_cases r9 : d24 + 2 * d25 + 4 * d26 + 32 * d29 = 57
  · rw [if_pos r9]
    unfold kN
    simp (disch := omega) only [↓if_pos, ↓if_neg]
    repeat' split
    all_goals first | rfl | (exfalso; omega)
  rw [if_neg r9]
  have g9 : Unit → ¬ (d24 + 2 * d25 + 4 * d26 + 32 * d29 = 57) := fun _ => r9
  clear r9
  by_cases r10 : d24 + 2 * d25 + 4 * d26 + 32 * d29 = 56 ∧ d21 = 1 ∧ d13 + 4 * d15 = 3 ∧ d10 + 2 * d11 = 2
  · rw [if_pos r10]
    unfold kN
    simp (disch := omega) only [↓if_pos, ↓if_neg]
    repeat' split
    all_goals first | rfl | (exfalso; omega)
  rw [if_neg r10]
  have g10 : Unit → ¬ (d24 + 2 * d25 + 4 * d26 + 32 * d29 = 56 ∧ d21 = 1 ∧ d13 + 4 * d15 = 3 ∧ d10 + 2 * d11 = 2) := fun _ => r10
  clear r10
  by_cases r11 : d25 + 2 * d26 + 16 * d29 + 32 * d30 + 64 * d31 = 84
  · rw [if_pos r11]
    unfold kN
    simp (disch := omega) only [↓if_pos, ↓if_neg]
    repeat' split
    all_goals first | rfl | (exfalso; omega)
  rw [if_neg r11]
  have g11 : Unit → ¬ (d25 + 2 * d26 + 16 * d29 + 32 * d30 + 64 * d31 = 84) := fun _ => r11
  clear r11
  by_cases r12 : d26 + 8 * d29 + 16 * d30 + 32 * d31 = 5
  · rw [if_pos r12]
    unfold kN
    simp (disch := omega) only [↓if_pos, ↓if_neg]
    unfold jN
    simp (disch := omega) only [↓if_pos, ↓if_neg]
  rw [if_neg r12]
  have g12 : Unit → ¬ (d26 + 8 * d29 + 16 * d30 + 32 * d31 = 5) := fun _ => r12
  clear r12
  by_cases r13 : d26 + 8 * d29 + 16 * d30 + 32 * d31 = 37
  · rw [if_pos r13]
    unfold kN
    simp (disch := omega) only [↓if_pos, ↓if_neg]
    unfold jN
    simp (disch := omega) only [↓if_pos, ↓if_neg]
  rw [if_neg r13]
  have g13 : Unit → ¬ (d26 + 8 * d29 + 16 * d30 + 32 * d31 = 37) := fun _ => r13
  clear r13
  by_cases r14 : d24 + 2 * d25 + 4 * d26 + 32 * d29 + 64 * d30 + 128 * d31 = 84 ∧ d4 = 0
  · rw [if_pos r14]
    unfold kN
    simp (disch := omega) only [↓if_pos, ↓if_neg]
    unfold jN
    simp (disch := omega) only [↓if_pos, ↓if_neg]
    repeat' split
    all_goals first | rfl | (exfalso; omega)
  rw [if_neg r14]
  have g14 : Unit → ¬ (d24 + 2 * d25 + 4 * d26 + 32 * d29 + 64 * d30 + 128 * d31 = 84 ∧ d4 = 0) := fun _ => r14
  clear r14
  by_cases r15 : d25 + 2 * d26 + 16 * d29 + 32 * d30 = 26
  · rw [if_pos r15]
    unfold kN
    simp (disch := omega) only [↓if_pos, ↓if_neg]
    unfold jN
    simp (disch := omega) only [↓if_pos, ↓if_neg]
  rw [if_neg r15]
  have g15 : Unit → ¬ (d25 + 2 * d26 + 16 * d29 + 32 * d30 = 26) := fun _ => r15
  clear r15
  by_cases r16 : d25 + 2 * d26 + 16 * d29 + 32 * d30 = 27
  · rw [if_pos r16]
    unfold kN
    simp (disch := omega) only [↓if_pos, ↓if_neg]
    unfold jN
    simp (disch := omega) only [↓if_pos, ↓if_neg]
  rw [if_neg r16]
  have g16 : Unit → ¬ (d25 + 2 * d26 + 16 * d29 + 32 * d30 = 27) := fun _ => r16
  clear r16
  by_cases r17 : d10 + 2 * d11 + 4 * d12 + 8 * d13 + 32 * d15 + 64 * d16 + 2048 * d21 + 4096 * d22 + 8192 * d23 + 16384 * d24 + 32768 * d25 + 65536 * d26 + 524288 * d29 + 1048576 * d30 + 2097152 * d31 = 3508160 ∧ d0 + 16 * d4 = 0
  · rw [if_pos r17]
    unfold kN
    simp (disch := omega) only [↓if_pos, ↓if_neg]
    unfold jN
    simp (disch := omega) only [↓if_pos, ↓if_neg]
  rw [if_neg r17]
  have g17 : Unit → ¬ (d10 + 2 * d11 + 4 * d12 + 8 * d13 + 32 * d15 + 64 * d16 + 2048 * d21 + 4096 * d22 + 8192 * d23 + 16384 * d24 + 32768 * d25 + 65536 * d26 + 524288 * d29 + 1048576 * d30 + 2097152 * d31 = 3508160 ∧ d0 + 16 * d4 = 0) := fun _ => r17
  clear r17
  by_cases r18 : d10 + 2 * d11 + 4 * d12 + 8 * d13 + 32 * d15 + 64 * d16 + 2048 * d21 + 4096 * d22 + 8192 * d23 + 16384 * d24 + 32768 * d25 + 65536 * d26 + 524288 * d29 + 1048576 * d30 + 2097152 * d31 = 3510208 ∧ d0 + 16 * d4 = 0
  · rw [if_pos r18]
    unfold kN
    simp (disch := omega) only [↓if_pos, ↓if_neg]
    unfold jN
    simp (disch := omega) only [↓if_pos, ↓if_neg]
  rw [if_neg r18]
  have g18 : Unit → ¬ (d10 + 2 * d11 + 4 * d12 + 8 * d13 + 32 * d15 + 64 * d16 + 2048 * d21 + 4096 * d22 + 8192 * d23 + 16384 * d24 + 32768 * d25 + 65536 * d26 + 524288 * d29 + 1048576 * d30 + 2097152 * d31 = 3510208 ∧ d0 + 16 * d4 = 0) := fun _ => r18
  clear r18
  by_cases r19 : d10 + 2 * d11 + 4 * d12 + 8 * d13 + 32 * d15 + 64 * d16 + 2048 * d21 + 4096 * d22 + 8192 * d23 + 16384 * d24 + 32768 * d25 + 65536 * d26 + 524288 * d29 + 1048576 * d30 + 2097152 * d31 = 3512256 ∧ d0 + 16 * d4 = 0
  · rw [if_pos r19]
    unfold kN
    simp (disch := omega) only [↓if_pos, ↓if_neg]
    unfold jN
    simp (disch := omega) only [↓if_pos, ↓if_neg]
  rw [if_neg r19]
  have g19 : Unit → ¬ (d10 + 2 * d11 + 4 * d12 + 8 * d13 + 32 * d15 + 64 * d16 + 2048 * d21 + 4096 * d22 + 8192 * d23 + 16384 * d24 + 32768 * d25 + 65536 * d26 + 524288 * d29 + 1048576 * d30 + 2097152 * d31 = 3512256 ∧ d0 + 16 * d4 = 0) := fun _ => r19
  clear r19
  by_cases r20 : d21 + 2 * d22 + 4 * d23 + 8 * d24 + 16 * d25 + 32 * d26 + 256 * d29 + 512 * d30 + 1024 * d31 = 1696 ∧ d0 + 16 * d4 = 1
  · rw [if_pos r20]
    unfold kN
    simp (disch := omega) only [↓if_pos, ↓if_neg]
    unfold jN
    simp (disch := omega) only [↓if_pos, ↓if_neg]
  rw [if_neg r20]
  have g20 : Unit → ¬ (d21 + 2 * d22 + 4 * d23 + 8 * d24 + 16 * d25 + 32 * d26 + 256 * d29 + 512 * d30 + 1024 * d31 = 1696 ∧ d0 + 16 * d4 = 1) := fun _ => r20
  clear r20
  by_cases r21 : d0 + 16 * d4 + 32 * d5 + 1024 * d10 + 2048 * d11 + 4096 * d12 + 8192 * d13 + 32768 * d15 + 65536 * d16 + 2097152 * d21 + 4194304 * d22 + 8388608 * d23 + 16777216 * d24 + 33554432 * d25 + 67108864 * d26 + 536870912 * d29 + 1073741824 * d30 + 2147483648 * d31 = 3573751839
  · rw [if_pos r21]
    unfold kN
    simp (disch := omega) only [↓if_pos, ↓if_neg]
    unfold jN
    simp (disch := omega) only [↓if_pos, ↓if_neg]
  rw [if_neg r21]
  have g21 : Unit → ¬ (d0 + 16 * d4 + 32 * d5 + 1024 * d10 + 2048 * d11 + 4096 * d12 + 8192 * d13 + 32768 * d15 + 65536 * d16 + 2097152 * d21 + 4194304 * d22 + 8388608 * d23 + 16777216 * d24 + 33554432 * d25 + 67108864 * d26 + 536870912 * d29 + 1073741824 * d30 + 2147483648 * d31 = 3573751839) := fun _ => r21
  clear r21
  unfold kN
  by_cases n1 : d24 + 2 * d25 + 4 * d26 = 8
  · rw [if_pos n1]
    by_cases n2 : d25 + 2 * d26 + 16 * d29 + 32 * d30 + 64 * d31 = 84
    · rw [if_pos n2]
      by_cases n3 : d23 + 2 * d24 = 0 ∨ (¬ d23 + 2 * d24 = 2 ∧ ¬ d5 = 31 ∧ (d5 = d0 + 16 * d4 ∨ d5 = d10 + 2 * d11 + 4 * d12 + 8 * d13)) ∨ (d22 = 1 ∧ d0 + 16 * d4 = d10 + 2 * d11 + 4 * d12 + 8 * d13)
      · rw [if_pos n3]
      rw [if_neg n3]
      exact absurd (by omega) (g11 ())
    rw [if_neg n2]
  rw [if_neg n1]
  by_cases n4 : d24 + 2 * d25 + 4 * d26 = 9
  · rw [if_pos n4]
    by_cases n5 : d25 + 2 * d26 + 16 * d29 + 32 * d30 + 64 * d31 = 84
    · rw [if_pos n5]
      by_cases n6 : d23 + 2 * d24 = 0 ∨ (¬ d23 + 2 * d24 = 2 ∧ ¬ d5 = 31 ∧ (d5 = d0 + 16 * d4 ∨ d5 = d10 + 2 * d11 + 4 * d12 + 8 * d13)) ∨ (d22 = 1 ∧ d0 + 16 * d4 = d10 + 2 * d11 + 4 * d12 + 8 * d13)
      · rw [if_pos n6]
      rw [if_neg n6]
      exact absurd (by omega) (g11 ())
    rw [if_neg n5]
  rw [if_neg n4]
  by_cases n7 : d24 + 2 * d25 + 4 * d26 = 10
  · rw [if_pos n7]
    by_cases n8 : d31 = 0 ∧ d15 = 1
    · rw [if_pos n8]
    rw [if_neg n8]
    exact absurd (by omega) (g3 ())
  rw [if_neg n7]
  by_cases n9 : d24 + 2 * d25 + 4 * d26 = 11
  · rw [if_pos n9]
    by_cases n10 : d21 = 0
    · rw [if_pos n10]
      by_cases n11 : d22 + 2 * d23 = 3
      · rw [if_pos n11]
      rw [if_neg n11]
      by_cases n12 : d31 = 0 ∧ d15 = 1
      · rw [if_pos n12]
      rw [if_neg n12]
      exact absurd (by omega) (g2 ())
    rw [if_neg n10]
  rw [if_neg n9]
  by_cases n13 : d24 + 2 * d25 + 4 * d26 = 16
  · rw [if_pos n13]
    by_cases n14 : d31 = 0
    · rw [if_pos n14]
    rw [if_neg n14]
    exact absurd (by omega) (g5 ())
  rw [if_neg n13]
  by_cases n15 : d24 + 2 * d25 + 4 * d26 = 17
  · rw [if_pos n15]
    by_cases n16 : d23 = 0
    · rw [if_pos n16]
      exact absurd (by omega) (g1 ())
    rw [if_neg n16]
  rw [if_neg n15]
  by_cases n17 : d24 + 2 * d25 + 4 * d26 = 18
  · rw [if_pos n17]
    by_cases n18 : d23 = 1
    · rw [if_pos n18]
      by_cases n19 : d29 + 2 * d30 = 1
      · rw [if_pos n19]
      rw [if_neg n19]
      by_cases n20 : d31 = 1
      · rw [if_pos n20]
        exact absurd (by omega) (g4 ())
      rw [if_neg n20]
      by_cases n21 : d22 = 0
      · rw [if_pos n21]
        exact absurd (by omega) (g4 ())
      rw [if_neg n21]
    rw [if_neg n18]
  rw [if_neg n17]
  by_cases n22 : d24 + 2 * d25 + 4 * d26 = 24
  · rw [if_pos n22]
    by_cases n23 : d29 = 1
    · rw [if_pos n23]
      by_cases n24 : ¬ (d21 = 1 ∧ d13 + 4 * d15 = 3 ∧ d10 + 2 * d11 = 2)
      · rw [if_pos n24]
      rw [if_neg n24]
      by_cases n25 : (d22 + 2 * d23 = 3) ∨ (d22 + 2 * d23 = 2 ∧ ¬ d30 + 2 * d31 = 2) ∨ (¬ d22 + 2 * d23 = 2 ∧ d30 + 2 * d31 = 1)
      · rw [if_pos n25]
      rw [if_neg n25]
      exact absurd (by omega) (g10 ())
    rw [if_neg n23]
  rw [if_neg n22]
  by_cases n26 : d24 + 2 * d25 + 4 * d26 = 25
  · rw [if_pos n26]
    by_cases n27 : d29 = 1
    · rw [if_pos n27]
      by_cases n28 : (d22 + 2 * d23 = 3) ∨ (d22 + 2 * d23 = 2 ∧ ¬ d30 + 2 * d31 = 2) ∨ (¬ d22 + 2 * d23 = 2 ∧ d30 + 2 * d31 = 1)
      · rw [if_pos n28]
      rw [if_neg n28]
      exact absurd (by omega) (g9 ())
    rw [if_neg n27]
  rw [if_neg n26]
  by_cases n29 : d24 + 2 * d25 + 4 * d26 = 26
  · rw [if_pos n29]
    by_cases n30 : d29 + 2 * d30 ≤ 0
    · rw [if_pos n30]
      unfold i2N
      by_cases n31 : d21 + 2 * d22 + 4 * d23 = 6
      · rw [if_pos n31]
        by_cases n32 : d10 + 2 * d11 + 4 * d12 + 8 * d13 + 32 * d15 = 2
        · rw [if_pos n32]
          exact absurd (by omega) (g7 ())
        rw [if_neg n32]
        by_cases n33 : d10 + 2 * d11 + 4 * d12 + 8 * d13 + 32 * d15 = 3
        · rw [if_pos n33]
          exact absurd (by omega) (g7 ())
        rw [if_neg n33]
        by_cases n34 : d10 + 2 * d11 + 4 * d12 + 8 * d13 + 32 * d15 ≤ 7
        · rw [if_pos n34]
        rw [if_neg n34]
        by_cases n35 : 11 ≤ d10 + 2 * d11 + 4 * d12 + 8 * d13 + 32 * d15
        · rw [if_pos n35]
        rw [if_neg n35]
        exact absurd (by omega) (g7 ())
      rw [if_neg n31]
      by_cases n36 : d21 + 2 * d22 + 4 * d23 = 4
      · rw [if_pos n36]
        by_cases n37 : d11 = 0
        · rw [if_pos n37]
          by_cases n38 : 14 ≤ d12 + 2 * d13 + 8 * d15
          · rw [if_pos n38]
          rw [if_neg n38]
          exact absurd (by omega) (g8 ())
        rw [if_neg n37]
      rw [if_neg n36]
    rw [if_neg n30]
  rw [if_neg n29]
  by_cases n39 : d24 + 2 * d25 + 4 * d26 = 27
  · rw [if_pos n39]
    by_cases n40 : d21 + 2 * d22 + 4 * d23 = 0
    · rw [if_pos n40]
      by_cases n41 : d29 + 2 * d30 = 0
      · rw [if_pos n41]
        exact absurd (by omega) (g6 ())
      rw [if_neg n41]
    rw [if_neg n40]
  rw [if_neg n39]
  unfold jN
  by_cases n42 : d26 + 8 * d29 + 16 * d30 + 32 * d31 = 5
  · rw [if_pos n42]
    exact absurd (by omega) (g12 ())
  rw [if_neg n42]
  by_cases n43 : d26 + 8 * d29 + 16 * d30 + 32 * d31 = 37
  · rw [if_pos n43]
    exact absurd (by omega) (g13 ())
  rw [if_neg n43]
  by_cases n44 : d24 + 2 * d25 + 4 * d26 + 32 * d29 + 64 * d30 + 128 * d31 = 84
  · rw [if_pos n44]
    by_cases n45 : d4 = 0
    · rw [if_pos n45]
      by_cases n46 : 14 ≤ d0
      · rw [if_pos n46]
      rw [if_neg n46]
      exact absurd (by omega) (g14 ())
    rw [if_neg n45]
  rw [if_neg n44]
  by_cases n47 : d25 + 2 * d26 + 16 * d29 + 32 * d30 = 26
  · rw [if_pos n47]
    exact absurd (by omega) (g15 ())
  rw [if_neg n47]
  by_cases n48 : d25 + 2 * d26 + 16 * d29 + 32 * d30 = 27
  · rw [if_pos n48]
    exact absurd (by omega) (g16 ())
  rw [if_neg n48]
  by_cases n49 : d24 + 2 * d25 + 4 * d26 + 32 * d29 + 64 * d30 + 128 * d31 = 214
  · rw [if_pos n49]
    by_cases n50 : 0 < d0 + 16 * d4
    · rw [if_pos n50]
    rw [if_neg n50]
    by_cases n51 : 0 < d10 + 2 * d11 + 4 * d12 + 8 * d13 + 32 * d15
    · rw [if_pos n51]
    rw [if_neg n51]
    by_cases n52 : d16 = 31
    · rw [if_pos n52]
      by_cases n53 : 3 ≤ d21 + 2 * d22 + 4 * d23
      · rw [if_pos n53]
      rw [if_neg n53]
      by_cases n54 : d21 + 2 * d22 + 4 * d23 = 0
      · rw [if_pos n54]
        exact absurd (by omega) (g17 ())
      rw [if_neg n54]
      by_cases n55 : d21 + 2 * d22 + 4 * d23 = 1
      · rw [if_pos n55]
        exact absurd (by omega) (g18 ())
      rw [if_neg n55]
      exact absurd (by omega) (g19 ())
    rw [if_neg n52]
  rw [if_neg n49]
  by_cases n56 : d21 + 2 * d22 + 4 * d23 + 8 * d24 + 16 * d25 + 32 * d26 + 256 * d29 + 512 * d30 + 1024 * d31 = 1696
  · rw [if_pos n56]
    by_cases n57 : d0 + 16 * d4 = 1
    · rw [if_pos n57]
      exact absurd (by omega) (g20 ())
    rw [if_neg n57]
    by_cases n58 : d0 + 16 * d4 + 32 * d5 + 1024 * d10 + 2048 * d11 + 4096 * d12 + 8192 * d13 + 32768 * d15 + 65536 * d16 + 2097152 * d21 + 4194304 * d22 + 8388608 * d23 + 16777216 * d24 + 33554432 * d25 + 67108864 * d26 + 536870912 * d29 + 1073741824 * d30 + 2147483648 * d31 = 3573751839
    · rw [if_pos n58]
      exact absurd (by omega) (g21 ())
    rw [if_neg n58]
  rw [if_neg n56]
  by_cases n59 : d0 + 16 * d4 + 32 * d5 + 1024 * d10 + 2048 * d11 + 4096 * d12 + 8192 * d13 + 32768 * d15 + 65536 * d16 + 2097152 * d21 + 4194304 * d22 + 8388608 * d23 + 16777216 * d24 + 33554432 * d25 + 67108864 * d26 + 536870912 * d29 + 1073741824 * d30 + 2147483648 * d31 = 3573751839
  · rw [if_pos n59]
    exact absurd (by omega) (g21 ())
  rw [if_neg n59]
theorem eq_kind (w : Int32) : fX0_kind w = fX1_kind w := by
  obtain ⟨d0, d4, d5, d10, d11, d12, d13, d15, d16, d21, d22, d23, d24, d25, d26, d29, d30, d31, h⟩ := dg_all w
  rw [k0_N h, k1_N h]
  exact kk_eq h.1
end
section
-- ===== end of PART A; then your names; then what follows =====
/-! THE CLAIM OUT OF ONE WALK OF THE LAW'S BODY. Your part is whole_start (and what it stands on); all else here is the same for every law, but numbers. -/
def R_law : String := "WordFormsLaw"
def lw_P (b : Addr) (xs : List Int32) (args : Array Value) (s : State) : Prop := args = #[.ref b] ∧ s.IntsAt b xs ∧ xs.length ≤ 3072 ∧ (Jvm.Cond.and given_1 narrow_1).before args s = true
def lw_Q (_ : Array Value) (s : State) (o : Outcome) (t : State) : Prop := o = .returned (some (.int 1)) ∧ Framed s o t [] 2 0
def lw_Z (below : List Frame) (a : Array Value) (s : State) : State → Prop := fun t => ∃ o, t.status = .running ∧ Ended t below o ∧ lw_Q a s o t
/-- the law's own end, with 1 on the stack, nothing written that was there before, its room as the claim has it -/
theorem lw_ret {p : Program} {l : Launch} {e : Env} {s : State} {m : MethodId} {below : List Frame} {meth : Method} {c : Code} {b : Nat} (hx : p.tables.exec = Jvm.exec) (hb : c.code = code) (hr : meth.sig.returnType = ret) (hlocks : meth.locks = false) {pc : Nat} {H : Heap} {ls : Array Slot} (hdg : decode code pc = .ok (.ireturn, 1)) : W p l e room_1 s m #[Value.ref b] below meth c H [] 2 0 (lw_Z below #[Value.ref b] s) (F0 m pc ls [.int 1]) := by
  intro T hT X
  obtain ⟨fs, hret, hrun, hended, hW, hframe⟩ := X.leave (v := some (.int 1)) (hlocks := hlocks) (fun h => by rw [hr] at h; cases h)
  have hmeth' : T.vm.method? m = some meth := X.method'
  refine ⟨T.setFrames fs, ?_, .returned (some (.int 1)), hrun, hended, rfl, ⟨_, rfl⟩, hW, hframe⟩
  jvm_step X.here [X.here.top, hx, hb, hdg, hmeth', hr, ret, narrow_b1]
  (try refine ⟨rfl, ?_⟩); (try refine ⟨rfl, ?_⟩)
  first | (intro acts; rw [hret _ acts rfl rfl rfl]) | rw [hret _ _ rfl rfl rfl]
  exact Steps.refl _
/-- what holds at the law's entry: the machine, the code, the tables' words (any of lw_tbl by 'hts w (by decide +kernel)'), the script of L ints xs at the cell b, what the Statement gives of the start (any of its parts by flat_of_before) -/
def lw_At (p : Program) (s : State) (m : MethodId) (meth : Method) (c : Code) (b L : Nat) (xs : Nat → Int32) : Prop :=
  p.tables.exec = Jvm.exec ∧ c.code = code ∧ meth.sig.returnType = ret ∧ c.maxLocals = 4 ∧ s.vm.findClass R_law = some m.cls ∧ (∀ w ∈ lw_tbl, w.before #[Value.ref b] s = true) ∧ va_X b L xs s s.heap ∧ b < s.heap.size ∧ meth.locks = false ∧ (Jvm.Cond.and given_1 narrow_1).before #[Value.ref b] s = true
set_option maxHeartbeats 8000000 in
set_option maxRecDepth 100000 in
/-- the law's loop: k ints are read -/
theorem law_loop {p : Program} {l : Launch} {e : Env} {s : State} {m : MethodId} {below : List Frame} {meth : Method} {c : Code} {b L : Nat} {xs : Nat → Int32} (hL : L ≤ 3072) (C0 : lw_At p s m meth c b L xs) (t0 : Nat) (htt : wv_tt t0 s) (q0 q1 : Nat) :
    ∀ (n k : Nat) (x3 : Int32), k ≤ L → L + 1 ≤ k + n → x3 = nI k → ∀ (H : Heap) (locs : List Loc), wv_lrc RX0 q0 s H → wv_lrc RX1 q1 s H → va_S (fun q : Nat => s.heap.size ≤ q) s.heap H locs → ∀ (ls : Array Slot), lv_has ls 4 [(0, .ref b), (1, .ref q0), (2, .ref q1), (3, .int x3)] → W p l e room_1 s m #[Value.ref b] below meth c H locs 2 0 (lw_Z below #[Value.ref b] s) (F0 m 18 ls []) := by
  obtain ⟨hx, hb, hr, hml, hown, hts0, hX, hbl, hlocks, hgv⟩ := C0
  have hown : s.vm.findClass RL = some m.cls := hown
  have hts : ∀ w ∈ wsL_law, w.before #[Value.ref b] s = true := fun w h => hts0 w (wsL_law_in w h)
  have hbA : ¬ (fun q : Nat => s.heap.size ≤ q) b := Nat.not_le.mpr hbl
  intro n
  induction n with
  | zero =>
    intro k x3 h1 h2
    exact absurd h2 (by omega)
  | succ n ih =>
    intro k x3 hk hn ex3 H locs hq0 hq1 hS ls hl
    refine lv_iload_n hx hb dL_law_18 rfl (lv_at hl 3 rfl) ?_
    refine lv_aload_n hx hb dL_law_19 rfl (lv_at hl 0 rfl) ?_
    refine va_slen hx hb hX hbl hbA hS dL_law_20 ?_
    refine lv_bipush (v := 6) hx hb dL_law_21 (by decide) ?_
    refine lv_isub hx hb dL_law_23 ?_
    refine lv_icmp_gt (tgt := 477) hx hb dL_law_24 (by decide) (fun c_0 => ?_) (fun c_0 => ?_)
    · refine lv_iconst (v := 1) hx hb dL_law_477 (by decide) ?_
      refine va_forget (fun q hq => hS.2.2 q hq) ?_
      refine W.widen (k := 2) (n := 0) (Nat.le_refl 2) (Nat.le_refl 0) ?_
      exact lw_ret hx hb hr hlocks dL_law_478
    · have hk6 : k + 6 ≤ L := lw_six hL hk ex3 c_0
      have hi_0 : vp_in x3 L := by rw [ex3]; exact vp_in_nI (by omega) (by omega)
      have hi_1 : vp_in (x3 + (1 : Int32)) L := lw_in hL ex3 hk6 1 (by omega)
      have hi_2 : vp_in (x3 + (2 : Int32)) L := lw_in hL ex3 hk6 2 (by omega)
      have hi_3 : vp_in (x3 + (3 : Int32)) L := lw_in hL ex3 hk6 3 (by omega)
      have hi_4 : vp_in (x3 + (4 : Int32)) L := lw_in hL ex3 hk6 4 (by omega)
      have hi_5 : vp_in (x3 + (5 : Int32)) L := lw_in hL ex3 hk6 5 (by omega)
      refine lv_aload_n hx hb dL_law_27 rfl (lv_at hl 0 rfl) ?_
      refine lv_iload_n hx hb dL_law_28 rfl (lv_at hl 3 rfl) ?_
      refine va_sld hx hb hX hbl hbA hS hi_0 dL_law_29 ?_
      refine lv_bipush (v := 15) hx hb dL_law_30 (by decide) ?_
      refine lv_iand hx hb dL_law_32 ?_
      by_cases c_1 : ((xs (x3).toNatClampNeg) &&& (15 : Int32)) = (0 : Int32)
      · refine lv_tableIn (off := 51) (tgt := 84) hx hb dL_law_33 (by rw [c_1]; decide) (by rw [c_1]; decide) (by rw [c_1]; decide) (by decide) ?_
        refine lv_aload_n hx hb dL_law_84 rfl (lv_at hl 1 rfl) ?_
        refine lv_aload_n hx hb dL_law_85 rfl (lv_at hl 0 rfl) ?_
        refine lv_iload_n hx hb dL_law_86 rfl (lv_at hl 3 rfl) ?_
        refine lv_iconst (v := 1) hx hb dL_law_87 (by decide) ?_
        refine lv_iadd hx hb dL_law_88 ?_
        refine va_sld hx hb hX hbl hbA hS hi_1 dL_law_89 ?_
        refine va_calli (va_runV (As := [.int (xs ((x3 + (1 : Int32))).toNatClampNeg)]) (rest := []) ⟨hx, hb, hml, hown, hts⟩ (mX0_kind l H.size q0 t0 (xs ((x3 + (1 : Int32))).toNatClampNeg)) (cwV 1 hts gL_law_X0_kind rfl rfl rfl (by decide +kernel) ⟨Nat.le_of_ble_eq_true rfl, Nat.le_of_ble_eq_true rfl⟩) ⟨fb_ww, hq0, fun U hU hW => ⟨rfl, congrArg Array.size hU, hq0.go hU hW.alike, htt.go hS hU hW.alike⟩⟩ rfl rfl hl.1 rfl (lv_room (Nat.le_of_ble_eq_true rfl)) dL_law_90 ⟨Nat.le_of_ble_eq_true rfl, Nat.le_of_ble_eq_true rfl⟩) hS (fun q _ h => Nat.le_trans hS.1 h) (fun q h => Nat.le_trans hS.1 h) (fun r_2 _ _ H_2 _ _ _ hw _ _ hk1 hS => ?_)
        subst hw
        have hq0 := hq0.keep hk1
        have hq1 := hq1.keep hk1
        clear hk1
        refine lv_aload_n hx hb dL_law_93 rfl (lv_at hl 2 rfl) ?_
        refine lv_aload_n hx hb dL_law_94 rfl (lv_at hl 0 rfl) ?_
        refine lv_iload_n hx hb dL_law_95 rfl (lv_at hl 3 rfl) ?_
        refine lv_iconst (v := 1) hx hb dL_law_96 (by decide) ?_
        refine lv_iadd hx hb dL_law_97 ?_
        refine va_sld hx hb hX hbl hbA hS hi_1 dL_law_98 ?_
        refine va_calli (va_runV (As := [.int (xs ((x3 + (1 : Int32))).toNatClampNeg)]) (rest := [.int (fX0_kind (xs ((x3 + (1 : Int32))).toNatClampNeg))]) ⟨hx, hb, hml, hown, hts⟩ (mX1_kind l H_2.size q1 (xs ((x3 + (1 : Int32))).toNatClampNeg)) (cwV 1 hts gL_law_X1_kind rfl rfl rfl (by decide +kernel) ⟨Nat.le_of_ble_eq_true rfl, Nat.le_of_ble_eq_true rfl⟩) ⟨fb_rr, hq1, fun U hU hW => ⟨rfl, congrArg Array.size hU, hq1.go hU hW.alike⟩⟩ rfl rfl hl.1 rfl (lv_room (Nat.le_of_ble_eq_true rfl)) dL_law_99 ⟨Nat.le_of_ble_eq_true rfl, Nat.le_of_ble_eq_true rfl⟩) hS (fun q _ h => Nat.le_trans hS.1 h) (fun q h => Nat.le_trans hS.1 h) (fun r_3 _ _ H_3 _ _ _ hw _ _ hk1 hS => ?_)
        subst hw
        have hq0 := hq0.keep hk1
        have hq1 := hq1.keep hk1
        clear hk1
        refine lv_icmp_eq (tgt := 471) hx hb dL_law_102 (by decide) (fun _ => ?_) (fun c => absurd (eq_kind ..) c)
        obtain ⟨x3n, ex3n⟩ : ∃ y : Int32, y = x3 + 6 := ⟨_, rfl⟩
        refine lv_iinc (v := x3n) (lv' := [(3, .int x3n), (0, .ref b), (1, .ref q0), (2, .ref q1)]) hx hb dL_law_471 hl (k := 3) rfl (by rw [ex3n]; rfl) (by decide) rfl (fun ls hl => ?_)
        refine lv_goto (tgt := 18) hx hb dL_law_474 (by decide) ?_
        exact ih (k + 6) x3n (by omega) (by omega) (by rw [ex3n, ex3]; exact nI_add k 6) _ _ hq0 hq1 hS ls (lv_sub hl [1, 2, 3, 0] rfl)
      by_cases c_4 : ((xs (x3).toNatClampNeg) &&& (15 : Int32)) = (1 : Int32)
      · refine lv_tableIn (off := 74) (tgt := 107) hx hb dL_law_33 (by rw [c_4]; decide) (by rw [c_4]; decide) (by rw [c_4]; decide) (by decide) ?_
        refine lv_aload_n hx hb dL_law_107 rfl (lv_at hl 1 rfl) ?_
        refine lv_aload_n hx hb dL_law_108 rfl (lv_at hl 0 rfl) ?_
        refine lv_iload_n hx hb dL_law_109 rfl (lv_at hl 3 rfl) ?_
        refine lv_iconst (v := 1) hx hb dL_law_110 (by decide) ?_
        refine lv_iadd hx hb dL_law_111 ?_
        refine va_sld hx hb hX hbl hbA hS hi_1 dL_law_112 ?_
        refine va_calli (va_runV (As := [.int (xs ((x3 + (1 : Int32))).toNatClampNeg)]) (rest := []) ⟨hx, hb, hml, hown, hts⟩ (mX0_by l H.size q0 t0 (xs ((x3 + (1 : Int32))).toNatClampNeg)) (cwV 1 hts gL_law_X0_by rfl rfl rfl (by decide +kernel) ⟨Nat.le_of_ble_eq_true rfl, Nat.le_of_ble_eq_true rfl⟩) ⟨fb_ww, hq0, fun U hU hW => ⟨rfl, congrArg Array.size hU, hq0.go hU hW.alike, htt.go hS hU hW.alike⟩⟩ rfl rfl hl.1 rfl (lv_room (Nat.le_of_ble_eq_true rfl)) dL_law_113 ⟨Nat.le_of_ble_eq_true rfl, Nat.le_of_ble_eq_true rfl⟩) hS (fun q _ h => Nat.le_trans hS.1 h) (fun q h => Nat.le_trans hS.1 h) (fun r_5 _ _ H_5 _ _ _ hw _ _ hk1 hS => ?_)
        subst hw
        have hq0 := hq0.keep hk1
        have hq1 := hq1.keep hk1
        clear hk1
        refine lv_pop hx hb dL_law_116 rfl ?_
        refine lv_aload_n hx hb dL_law_117 rfl (lv_at hl 2 rfl) ?_
        refine lv_aload_n hx hb dL_law_118 rfl (lv_at hl 0 rfl) ?_
        refine lv_iload_n hx hb dL_law_119 rfl (lv_at hl 3 rfl) ?_
        refine lv_iconst (v := 1) hx hb dL_law_120 (by decide) ?_
        refine lv_iadd hx hb dL_law_121 ?_
        refine va_sld hx hb hX hbl hbA hS hi_1 dL_law_122 ?_
        refine va_calli (va_runV (As := [.int (xs ((x3 + (1 : Int32))).toNatClampNeg)]) (rest := []) ⟨hx, hb, hml, hown, hts⟩ (mX1_by l H_5.size q1 (xs ((x3 + (1 : Int32))).toNatClampNeg)) (cwV 1 hts gL_law_X1_by rfl rfl rfl (by decide +kernel) ⟨Nat.le_of_ble_eq_true rfl, Nat.le_of_ble_eq_true rfl⟩) ⟨fb_rr, hq1, fun U hU hW => ⟨rfl, congrArg Array.size hU, hq1.go hU hW.alike⟩⟩ rfl rfl hl.1 rfl (lv_room (Nat.le_of_ble_eq_true rfl)) dL_law_123 ⟨Nat.le_of_ble_eq_true rfl, Nat.le_of_ble_eq_true rfl⟩) hS (fun q _ h => Nat.le_trans hS.1 h) (fun q h => Nat.le_trans hS.1 h) (fun r_6 _ _ H_6 _ _ _ hw _ _ hk1 hS => ?_)
        subst hw
        have hq0 := hq0.keep hk1
        have hq1 := hq1.keep hk1
        clear hk1
        refine lv_pop hx hb dL_law_126 rfl ?_
        refine lv_goto (tgt := 471) hx hb dL_law_127 (by decide) ?_
        obtain ⟨x3n, ex3n⟩ : ∃ y : Int32, y = x3 + 6 := ⟨_, rfl⟩
        refine lv_iinc (v := x3n) (lv' := [(3, .int x3n), (0, .ref b), (1, .ref q0), (2, .ref q1)]) hx hb dL_law_471 hl (k := 3) rfl (by rw [ex3n]; rfl) (by decide) rfl (fun ls hl => ?_)
        refine lv_goto (tgt := 18) hx hb dL_law_474 (by decide) ?_
        exact ih (k + 6) x3n (by omega) (by omega) (by rw [ex3n, ex3]; exact nI_add k 6) _ _ hq0 hq1 hS ls (lv_sub hl [1, 2, 3, 0] rfl)
      by_cases c_7 : ((xs (x3).toNatClampNeg) &&& (15 : Int32)) = (2 : Int32)
      · refine lv_tableIn (off := 97) (tgt := 130) hx hb dL_law_33 (by rw [c_7]; decide) (by rw [c_7]; decide) (by rw [c_7]; decide) (by decide) ?_
        refine lv_aload_n hx hb dL_law_130 rfl (lv_at hl 1 rfl) ?_
        refine lv_aload_n hx hb dL_law_131 rfl (lv_at hl 0 rfl) ?_
        refine lv_iload_n hx hb dL_law_132 rfl (lv_at hl 3 rfl) ?_
        refine lv_iconst (v := 1) hx hb dL_law_133 (by decide) ?_
        refine lv_iadd hx hb dL_law_134 ?_
        refine va_sld hx hb hX hbl hbA hS hi_1 dL_law_135 ?_
        refine lv_aload_n hx hb dL_law_136 rfl (lv_at hl 0 rfl) ?_
        refine lv_iload_n hx hb dL_law_137 rfl (lv_at hl 3 rfl) ?_
        refine lv_iconst (v := 2) hx hb dL_law_138 (by decide) ?_
        refine lv_iadd hx hb dL_law_139 ?_
        refine va_sld hx hb hX hbl hbA hS hi_2 dL_law_140 ?_
        refine va_calli (va_runV (As := [.int (xs ((x3 + (1 : Int32))).toNatClampNeg), .int (xs ((x3 + (2 : Int32))).toNatClampNeg)]) (rest := []) ⟨hx, hb, hml, hown, hts⟩ (mX0_going l H.size q0 t0 (xs ((x3 + (1 : Int32))).toNatClampNeg) (xs ((x3 + (2 : Int32))).toNatClampNeg)) (cwV 2 hts gL_law_X0_going rfl rfl rfl (by decide +kernel) ⟨Nat.le_of_ble_eq_true rfl, Nat.le_of_ble_eq_true rfl⟩) ⟨fb_ww, hq0, fun U hU hW => ⟨rfl, congrArg Array.size hU, hq0.go hU hW.alike, htt.go hS hU hW.alike⟩⟩ rfl rfl hl.1 rfl (lv_room (Nat.le_of_ble_eq_true rfl)) dL_law_141 ⟨Nat.le_of_ble_eq_true rfl, Nat.le_of_ble_eq_true rfl⟩) hS (fun q _ h => Nat.le_trans hS.1 h) (fun q h => Nat.le_trans hS.1 h) (fun r_8 _ _ H_8 _ _ _ hw _ _ hk1 hS => ?_)
        subst hw
        have hq0 := hq0.keep hk1
        have hq1 := hq1.keep hk1
        clear hk1
        refine lv_pop hx hb dL_law_144 rfl ?_
        refine lv_aload_n hx hb dL_law_145 rfl (lv_at hl 2 rfl) ?_
        refine lv_aload_n hx hb dL_law_146 rfl (lv_at hl 0 rfl) ?_
        refine lv_iload_n hx hb dL_law_147 rfl (lv_at hl 3 rfl) ?_
        refine lv_iconst (v := 1) hx hb dL_law_148 (by decide) ?_
        refine lv_iadd hx hb dL_law_149 ?_
        refine va_sld hx hb hX hbl hbA hS hi_1 dL_law_150 ?_
        refine lv_aload_n hx hb dL_law_151 rfl (lv_at hl 0 rfl) ?_
        refine lv_iload_n hx hb dL_law_152 rfl (lv_at hl 3 rfl) ?_
        refine lv_iconst (v := 2) hx hb dL_law_153 (by decide) ?_
        refine lv_iadd hx hb dL_law_154 ?_
        refine va_sld hx hb hX hbl hbA hS hi_2 dL_law_155 ?_
        refine va_calli (va_runV (As := [.int (xs ((x3 + (1 : Int32))).toNatClampNeg), .int (xs ((x3 + (2 : Int32))).toNatClampNeg)]) (rest := []) ⟨hx, hb, hml, hown, hts⟩ (mX1_going l H_8.size q1 (xs ((x3 + (1 : Int32))).toNatClampNeg) (xs ((x3 + (2 : Int32))).toNatClampNeg)) (cwV 2 hts gL_law_X1_going rfl rfl rfl (by decide +kernel) ⟨Nat.le_of_ble_eq_true rfl, Nat.le_of_ble_eq_true rfl⟩) ⟨fb_rr, hq1, fun U hU hW => ⟨rfl, congrArg Array.size hU, hq1.go hU hW.alike⟩⟩ rfl rfl hl.1 rfl (lv_room (Nat.le_of_ble_eq_true rfl)) dL_law_156 ⟨Nat.le_of_ble_eq_true rfl, Nat.le_of_ble_eq_true rfl⟩) hS (fun q _ h => Nat.le_trans hS.1 h) (fun q h => Nat.le_trans hS.1 h) (fun r_9 _ _ H_9 _ _ _ hw _ _ hk1 hS => ?_)
        subst hw
        have hq0 := hq0.keep hk1
        have hq1 := hq1.keep hk1
        clear hk1
        refine lv_pop hx hb dL_law_159 rfl ?_
        refine lv_goto (tgt := 471) hx hb dL_law_160 (by decide) ?_
        obtain ⟨x3n, ex3n⟩ : ∃ y : Int32, y = x3 + 6 := ⟨_, rfl⟩
        refine lv_iinc (v := x3n) (lv' := [(3, .int x3n), (0, .ref b), (1, .ref q0), (2, .ref q1)]) hx hb dL_law_471 hl (k := 3) rfl (by rw [ex3n]; rfl) (by decide) rfl (fun ls hl => ?_)
        refine lv_goto (tgt := 18) hx hb dL_law_474 (by decide) ?_
        exact ih (k + 6) x3n (by omega) (by omega) (by rw [ex3n, ex3]; exact nI_add k 6) _ _ hq0 hq1 hS ls (lv_sub hl [1, 2, 3, 0] rfl)
      by_cases c_10 : ((xs (x3).toNatClampNeg) &&& (15 : Int32)) = (3 : Int32)
      · refine lv_tableIn (off := 130) (tgt := 163) hx hb dL_law_33 (by rw [c_10]; decide) (by rw [c_10]; decide) (by rw [c_10]; decide) (by decide) ?_
        refine lv_aload_n hx hb dL_law_163 rfl (lv_at hl 1 rfl) ?_
        refine lv_aload_n hx hb dL_law_164 rfl (lv_at hl 0 rfl) ?_
        refine lv_iload_n hx hb dL_law_165 rfl (lv_at hl 3 rfl) ?_
        refine lv_iconst (v := 1) hx hb dL_law_166 (by decide) ?_
        refine lv_iadd hx hb dL_law_167 ?_
        refine va_sld hx hb hX hbl hbA hS hi_1 dL_law_168 ?_
        refine lv_aload_n hx hb dL_law_169 rfl (lv_at hl 0 rfl) ?_
        refine lv_iload_n hx hb dL_law_170 rfl (lv_at hl 3 rfl) ?_
        refine lv_iconst (v := 2) hx hb dL_law_171 (by decide) ?_
        refine lv_iadd hx hb dL_law_172 ?_
        refine va_sld hx hb hX hbl hbA hS hi_2 dL_law_173 ?_
        refine lv_i2l hx hb dL_law_174 rfl ?_
        refine lv_bipush (v := 32) hx hb dL_law_175 (by decide) ?_
        refine lv_lshl hx hb dL_law_177 rfl ?_
        refine lv_aload_n hx hb dL_law_178 rfl (lv_at hl 0 rfl) ?_
        refine lv_iload_n hx hb dL_law_179 rfl (lv_at hl 3 rfl) ?_
        refine lv_iconst (v := 3) hx hb dL_law_180 (by decide) ?_
        refine lv_iadd hx hb dL_law_181 ?_
        refine va_sld hx hb hX hbl hbA hS hi_3 dL_law_182 ?_
        refine lv_i2l hx hb dL_law_183 rfl ?_
        refine lv_ldc2 hx hb hown (hts (.constantLong RL 27 (4294967295)) (by decide +kernel)) dL_law_184 ?_
        refine lv_land hx hb dL_law_187 ?_
        refine lv_lor hx hb dL_law_188 ?_
        refine va_calli (va_runV (As := [.int (xs ((x3 + (1 : Int32))).toNatClampNeg), .long ((((xs ((x3 + (2 : Int32))).toNatClampNeg).toInt64) <<< ((32 : Int32).toInt64 &&& 63)) ||| (((xs ((x3 + (3 : Int32))).toNatClampNeg).toInt64) &&& (4294967295 : Int64)))]) (rest := []) ⟨hx, hb, hml, hown, hts⟩ (mX0_reaches l H.size q0 t0 (xs ((x3 + (1 : Int32))).toNatClampNeg) ((((xs ((x3 + (2 : Int32))).toNatClampNeg).toInt64) <<< ((32 : Int32).toInt64 &&& 63)) ||| (((xs ((x3 + (3 : Int32))).toNatClampNeg).toInt64) &&& (4294967295 : Int64)))) (cwV 2 hts gL_law_X0_reaches rfl rfl rfl (by decide +kernel) ⟨Nat.le_of_ble_eq_true rfl, Nat.le_of_ble_eq_true rfl⟩) ⟨fb_ww, hq0, fun U hU hW => ⟨rfl, congrArg Array.size hU, hq0.go hU hW.alike, htt.go hS hU hW.alike⟩⟩ rfl rfl hl.1 rfl (lv_room (Nat.le_of_ble_eq_true rfl)) dL_law_189 ⟨Nat.le_of_ble_eq_true rfl, Nat.le_of_ble_eq_true rfl⟩) hS (fun q _ h => Nat.le_trans hS.1 h) (fun q h => Nat.le_trans hS.1 h) (fun r_11 _ _ H_11 _ _ _ hw _ _ hk1 hS => ?_)
        subst hw
        have hq0 := hq0.keep hk1
        have hq1 := hq1.keep hk1
        clear hk1
        refine lv_pop hx hb dL_law_192 rfl ?_
        refine lv_aload_n hx hb dL_law_193 rfl (lv_at hl 2 rfl) ?_
        refine lv_aload_n hx hb dL_law_194 rfl (lv_at hl 0 rfl) ?_
        refine lv_iload_n hx hb dL_law_195 rfl (lv_at hl 3 rfl) ?_
        refine lv_iconst (v := 1) hx hb dL_law_196 (by decide) ?_
        refine lv_iadd hx hb dL_law_197 ?_
        refine va_sld hx hb hX hbl hbA hS hi_1 dL_law_198 ?_
        refine lv_aload_n hx hb dL_law_199 rfl (lv_at hl 0 rfl) ?_
        refine lv_iload_n hx hb dL_law_200 rfl (lv_at hl 3 rfl) ?_
        refine lv_iconst (v := 2) hx hb dL_law_201 (by decide) ?_
        refine lv_iadd hx hb dL_law_202 ?_
        refine va_sld hx hb hX hbl hbA hS hi_2 dL_law_203 ?_
        refine lv_i2l hx hb dL_law_204 rfl ?_
        refine lv_bipush (v := 32) hx hb dL_law_205 (by decide) ?_
        refine lv_lshl hx hb dL_law_207 rfl ?_
        refine lv_aload_n hx hb dL_law_208 rfl (lv_at hl 0 rfl) ?_
        refine lv_iload_n hx hb dL_law_209 rfl (lv_at hl 3 rfl) ?_
        refine lv_iconst (v := 3) hx hb dL_law_210 (by decide) ?_
        refine lv_iadd hx hb dL_law_211 ?_
        refine va_sld hx hb hX hbl hbA hS hi_3 dL_law_212 ?_
        refine lv_i2l hx hb dL_law_213 rfl ?_
        refine lv_ldc2 hx hb hown (hts (.constantLong RL 27 (4294967295)) (by decide +kernel)) dL_law_214 ?_
        refine lv_land hx hb dL_law_217 ?_
        refine lv_lor hx hb dL_law_218 ?_
        refine va_calli (va_runV (As := [.int (xs ((x3 + (1 : Int32))).toNatClampNeg), .long ((((xs ((x3 + (2 : Int32))).toNatClampNeg).toInt64) <<< ((32 : Int32).toInt64 &&& 63)) ||| (((xs ((x3 + (3 : Int32))).toNatClampNeg).toInt64) &&& (4294967295 : Int64)))]) (rest := []) ⟨hx, hb, hml, hown, hts⟩ (mX1_reaches l H_11.size q1 (xs ((x3 + (1 : Int32))).toNatClampNeg) ((((xs ((x3 + (2 : Int32))).toNatClampNeg).toInt64) <<< ((32 : Int32).toInt64 &&& 63)) ||| (((xs ((x3 + (3 : Int32))).toNatClampNeg).toInt64) &&& (4294967295 : Int64)))) (cwV 2 hts gL_law_X1_reaches rfl rfl rfl (by decide +kernel) ⟨Nat.le_of_ble_eq_true rfl, Nat.le_of_ble_eq_true rfl⟩) ⟨fb_rr, hq1, fun U hU hW => ⟨rfl, congrArg Array.size hU, hq1.go hU hW.alike⟩⟩ rfl rfl hl.1 rfl (lv_room (Nat.le_of_ble_eq_true rfl)) dL_law_219 ⟨Nat.le_of_ble_eq_true rfl, Nat.le_of_ble_eq_true rfl⟩) hS (fun q _ h => Nat.le_trans hS.1 h) (fun q h => Nat.le_trans hS.1 h) (fun r_12 _ _ H_12 _ _ _ hw _ _ hk1 hS => ?_)
        subst hw
        have hq0 := hq0.keep hk1
        have hq1 := hq1.keep hk1
        clear hk1
        refine lv_pop hx hb dL_law_222 rfl ?_
        refine lv_goto (tgt := 471) hx hb dL_law_223 (by decide) ?_
        obtain ⟨x3n, ex3n⟩ : ∃ y : Int32, y = x3 + 6 := ⟨_, rfl⟩
        refine lv_iinc (v := x3n) (lv' := [(3, .int x3n), (0, .ref b), (1, .ref q0), (2, .ref q1)]) hx hb dL_law_471 hl (k := 3) rfl (by rw [ex3n]; rfl) (by decide) rfl (fun ls hl => ?_)
        refine lv_goto (tgt := 18) hx hb dL_law_474 (by decide) ?_
        exact ih (k + 6) x3n (by omega) (by omega) (by rw [ex3n, ex3]; exact nI_add k 6) _ _ hq0 hq1 hS ls (lv_sub hl [1, 2, 3, 0] rfl)
      by_cases c_13 : ((xs (x3).toNatClampNeg) &&& (15 : Int32)) = (4 : Int32)
      · refine lv_tableIn (off := 193) (tgt := 226) hx hb dL_law_33 (by rw [c_13]; decide) (by rw [c_13]; decide) (by rw [c_13]; decide) (by decide) ?_
        refine lv_aload_n hx hb dL_law_226 rfl (lv_at hl 1 rfl) ?_
        refine lv_aload_n hx hb dL_law_227 rfl (lv_at hl 0 rfl) ?_
        refine lv_iload_n hx hb dL_law_228 rfl (lv_at hl 3 rfl) ?_
        refine lv_iconst (v := 1) hx hb dL_law_229 (by decide) ?_
        refine lv_iadd hx hb dL_law_230 ?_
        refine va_sld hx hb hX hbl hbA hS hi_1 dL_law_231 ?_
        refine va_calli (va_runV (As := [.int (xs ((x3 + (1 : Int32))).toNatClampNeg)]) (rest := []) ⟨hx, hb, hml, hown, hts⟩ (mX0_turned l H.size q0 t0 (xs ((x3 + (1 : Int32))).toNatClampNeg)) (cwV 1 hts gL_law_X0_turned rfl rfl rfl (by decide +kernel) ⟨Nat.le_of_ble_eq_true rfl, Nat.le_of_ble_eq_true rfl⟩) ⟨fb_ww, hq0, fun U hU hW => ⟨rfl, congrArg Array.size hU, hq0.go hU hW.alike, htt.go hS hU hW.alike⟩⟩ rfl rfl hl.1 rfl (lv_room (Nat.le_of_ble_eq_true rfl)) dL_law_232 ⟨Nat.le_of_ble_eq_true rfl, Nat.le_of_ble_eq_true rfl⟩) hS (fun q _ h => Nat.le_trans hS.1 h) (fun q h => Nat.le_trans hS.1 h) (fun r_14 _ _ H_14 _ _ _ hw _ _ hk1 hS => ?_)
        subst hw
        have hq0 := hq0.keep hk1
        have hq1 := hq1.keep hk1
        clear hk1
        refine lv_pop hx hb dL_law_235 rfl ?_
        refine lv_aload_n hx hb dL_law_236 rfl (lv_at hl 2 rfl) ?_
        refine lv_aload_n hx hb dL_law_237 rfl (lv_at hl 0 rfl) ?_
        refine lv_iload_n hx hb dL_law_238 rfl (lv_at hl 3 rfl) ?_
        refine lv_iconst (v := 1) hx hb dL_law_239 (by decide) ?_
        refine lv_iadd hx hb dL_law_240 ?_
        refine va_sld hx hb hX hbl hbA hS hi_1 dL_law_241 ?_
        refine va_calli (va_runV (As := [.int (xs ((x3 + (1 : Int32))).toNatClampNeg)]) (rest := []) ⟨hx, hb, hml, hown, hts⟩ (mX1_turned l H_14.size q1 (xs ((x3 + (1 : Int32))).toNatClampNeg)) (cwV 1 hts gL_law_X1_turned rfl rfl rfl (by decide +kernel) ⟨Nat.le_of_ble_eq_true rfl, Nat.le_of_ble_eq_true rfl⟩) ⟨fb_rr, hq1, fun U hU hW => ⟨rfl, congrArg Array.size hU, hq1.go hU hW.alike⟩⟩ rfl rfl hl.1 rfl (lv_room (Nat.le_of_ble_eq_true rfl)) dL_law_242 ⟨Nat.le_of_ble_eq_true rfl, Nat.le_of_ble_eq_true rfl⟩) hS (fun q _ h => Nat.le_trans hS.1 h) (fun q h => Nat.le_trans hS.1 h) (fun r_15 _ _ H_15 _ _ _ hw _ _ hk1 hS => ?_)
        subst hw
        have hq0 := hq0.keep hk1
        have hq1 := hq1.keep hk1
        clear hk1
        refine lv_pop hx hb dL_law_245 rfl ?_
        refine lv_goto (tgt := 471) hx hb dL_law_246 (by decide) ?_
        obtain ⟨x3n, ex3n⟩ : ∃ y : Int32, y = x3 + 6 := ⟨_, rfl⟩
        refine lv_iinc (v := x3n) (lv' := [(3, .int x3n), (0, .ref b), (1, .ref q0), (2, .ref q1)]) hx hb dL_law_471 hl (k := 3) rfl (by rw [ex3n]; rfl) (by decide) rfl (fun ls hl => ?_)
        refine lv_goto (tgt := 18) hx hb dL_law_474 (by decide) ?_
        exact ih (k + 6) x3n (by omega) (by omega) (by rw [ex3n, ex3]; exact nI_add k 6) _ _ hq0 hq1 hS ls (lv_sub hl [1, 2, 3, 0] rfl)
      by_cases c_16 : ((xs (x3).toNatClampNeg) &&& (15 : Int32)) = (5 : Int32)
      · refine lv_tableIn (off := 216) (tgt := 249) hx hb dL_law_33 (by rw [c_16]; decide) (by rw [c_16]; decide) (by rw [c_16]; decide) (by decide) ?_
        refine lv_aload_n hx hb dL_law_249 rfl (lv_at hl 1 rfl) ?_
        refine lv_aload_n hx hb dL_law_250 rfl (lv_at hl 0 rfl) ?_
        refine lv_iload_n hx hb dL_law_251 rfl (lv_at hl 3 rfl) ?_
        refine lv_iconst (v := 1) hx hb dL_law_252 (by decide) ?_
        refine lv_iadd hx hb dL_law_253 ?_
        refine va_sld hx hb hX hbl hbA hS hi_1 dL_law_254 ?_
        refine lv_aload_n hx hb dL_law_255 rfl (lv_at hl 0 rfl) ?_
        refine lv_iload_n hx hb dL_law_256 rfl (lv_at hl 3 rfl) ?_
        refine lv_iconst (v := 2) hx hb dL_law_257 (by decide) ?_
        refine lv_iadd hx hb dL_law_258 ?_
        refine va_sld hx hb hX hbl hbA hS hi_2 dL_law_259 ?_
        refine lv_i2l hx hb dL_law_260 rfl ?_
        refine lv_bipush (v := 32) hx hb dL_law_261 (by decide) ?_
        refine lv_lshl hx hb dL_law_263 rfl ?_
        refine lv_aload_n hx hb dL_law_264 rfl (lv_at hl 0 rfl) ?_
        refine lv_iload_n hx hb dL_law_265 rfl (lv_at hl 3 rfl) ?_
        refine lv_iconst (v := 3) hx hb dL_law_266 (by decide) ?_
        refine lv_iadd hx hb dL_law_267 ?_
        refine va_sld hx hb hX hbl hbA hS hi_3 dL_law_268 ?_
        refine lv_i2l hx hb dL_law_269 rfl ?_
        refine lv_ldc2 hx hb hown (hts (.constantLong RL 27 (4294967295)) (by decide +kernel)) dL_law_270 ?_
        refine lv_land hx hb dL_law_273 ?_
        refine lv_lor hx hb dL_law_274 ?_
        refine va_calll (va_runV (As := [.int (xs ((x3 + (1 : Int32))).toNatClampNeg), .long ((((xs ((x3 + (2 : Int32))).toNatClampNeg).toInt64) <<< ((32 : Int32).toInt64 &&& 63)) ||| (((xs ((x3 + (3 : Int32))).toNatClampNeg).toInt64) &&& (4294967295 : Int64)))]) (rest := []) ⟨hx, hb, hml, hown, hts⟩ (mX0_page l H.size q0 t0 (xs ((x3 + (1 : Int32))).toNatClampNeg) ((((xs ((x3 + (2 : Int32))).toNatClampNeg).toInt64) <<< ((32 : Int32).toInt64 &&& 63)) ||| (((xs ((x3 + (3 : Int32))).toNatClampNeg).toInt64) &&& (4294967295 : Int64)))) (cwV 2 hts gL_law_X0_page rfl rfl rfl (by decide +kernel) ⟨Nat.le_of_ble_eq_true rfl, Nat.le_of_ble_eq_true rfl⟩) ⟨fb_ww, hq0, fun U hU hW => ⟨rfl, congrArg Array.size hU, hq0.go hU hW.alike, htt.go hS hU hW.alike⟩⟩ rfl rfl hl.1 rfl (lv_room (Nat.le_of_ble_eq_true rfl)) dL_law_275 ⟨Nat.le_of_ble_eq_true rfl, Nat.le_of_ble_eq_true rfl⟩) hS (fun q _ h => Nat.le_trans hS.1 h) (fun q h => Nat.le_trans hS.1 h) (fun r_17 _ _ H_17 _ _ _ hw _ _ hk1 hS => ?_)
        subst hw
        have hq0 := hq0.keep hk1
        have hq1 := hq1.keep hk1
        clear hk1
        refine lv_pop2_2 hx hb dL_law_278 rfl ?_
        refine lv_aload_n hx hb dL_law_279 rfl (lv_at hl 2 rfl) ?_
        refine lv_aload_n hx hb dL_law_280 rfl (lv_at hl 0 rfl) ?_
        refine lv_iload_n hx hb dL_law_281 rfl (lv_at hl 3 rfl) ?_
        refine lv_iconst (v := 1) hx hb dL_law_282 (by decide) ?_
        refine lv_iadd hx hb dL_law_283 ?_
        refine va_sld hx hb hX hbl hbA hS hi_1 dL_law_284 ?_
        refine lv_aload_n hx hb dL_law_285 rfl (lv_at hl 0 rfl) ?_
        refine lv_iload_n hx hb dL_law_286 rfl (lv_at hl 3 rfl) ?_
        refine lv_iconst (v := 2) hx hb dL_law_287 (by decide) ?_
        refine lv_iadd hx hb dL_law_288 ?_
        refine va_sld hx hb hX hbl hbA hS hi_2 dL_law_289 ?_
        refine lv_i2l hx hb dL_law_290 rfl ?_
        refine lv_bipush (v := 32) hx hb dL_law_291 (by decide) ?_
        refine lv_lshl hx hb dL_law_293 rfl ?_
        refine lv_aload_n hx hb dL_law_294 rfl (lv_at hl 0 rfl) ?_
        refine lv_iload_n hx hb dL_law_295 rfl (lv_at hl 3 rfl) ?_
        refine lv_iconst (v := 3) hx hb dL_law_296 (by decide) ?_
        refine lv_iadd hx hb dL_law_297 ?_
        refine va_sld hx hb hX hbl hbA hS hi_3 dL_law_298 ?_
        refine lv_i2l hx hb dL_law_299 rfl ?_
        refine lv_ldc2 hx hb hown (hts (.constantLong RL 27 (4294967295)) (by decide +kernel)) dL_law_300 ?_
        refine lv_land hx hb dL_law_303 ?_
        refine lv_lor hx hb dL_law_304 ?_
        refine va_calll (va_runV (As := [.int (xs ((x3 + (1 : Int32))).toNatClampNeg), .long ((((xs ((x3 + (2 : Int32))).toNatClampNeg).toInt64) <<< ((32 : Int32).toInt64 &&& 63)) ||| (((xs ((x3 + (3 : Int32))).toNatClampNeg).toInt64) &&& (4294967295 : Int64)))]) (rest := []) ⟨hx, hb, hml, hown, hts⟩ (mX1_page l H_17.size q1 (xs ((x3 + (1 : Int32))).toNatClampNeg) ((((xs ((x3 + (2 : Int32))).toNatClampNeg).toInt64) <<< ((32 : Int32).toInt64 &&& 63)) ||| (((xs ((x3 + (3 : Int32))).toNatClampNeg).toInt64) &&& (4294967295 : Int64)))) (cwV 2 hts gL_law_X1_page rfl rfl rfl (by decide +kernel) ⟨Nat.le_of_ble_eq_true rfl, Nat.le_of_ble_eq_true rfl⟩) ⟨fb_rr, hq1, fun U hU hW => ⟨rfl, congrArg Array.size hU, hq1.go hU hW.alike⟩⟩ rfl rfl hl.1 rfl (lv_room (Nat.le_of_ble_eq_true rfl)) dL_law_305 ⟨Nat.le_of_ble_eq_true rfl, Nat.le_of_ble_eq_true rfl⟩) hS (fun q _ h => Nat.le_trans hS.1 h) (fun q h => Nat.le_trans hS.1 h) (fun r_18 _ _ H_18 _ _ _ hw _ _ hk1 hS => ?_)
        subst hw
        have hq0 := hq0.keep hk1
        have hq1 := hq1.keep hk1
        clear hk1
        refine lv_pop2_2 hx hb dL_law_308 rfl ?_
        refine lv_goto (tgt := 471) hx hb dL_law_309 (by decide) ?_
        obtain ⟨x3n, ex3n⟩ : ∃ y : Int32, y = x3 + 6 := ⟨_, rfl⟩
        refine lv_iinc (v := x3n) (lv' := [(3, .int x3n), (0, .ref b), (1, .ref q0), (2, .ref q1)]) hx hb dL_law_471 hl (k := 3) rfl (by rw [ex3n]; rfl) (by decide) rfl (fun ls hl => ?_)
        refine lv_goto (tgt := 18) hx hb dL_law_474 (by decide) ?_
        exact ih (k + 6) x3n (by omega) (by omega) (by rw [ex3n, ex3]; exact nI_add k 6) _ _ hq0 hq1 hS ls (lv_sub hl [1, 2, 3, 0] rfl)
      by_cases c_19 : ((xs (x3).toNatClampNeg) &&& (15 : Int32)) = (6 : Int32)
      · refine lv_tableIn (off := 279) (tgt := 312) hx hb dL_law_33 (by rw [c_19]; decide) (by rw [c_19]; decide) (by rw [c_19]; decide) (by decide) ?_
        refine lv_aload_n hx hb dL_law_312 rfl (lv_at hl 1 rfl) ?_
        refine lv_aload_n hx hb dL_law_313 rfl (lv_at hl 0 rfl) ?_
        refine lv_iload_n hx hb dL_law_314 rfl (lv_at hl 3 rfl) ?_
        refine lv_iconst (v := 1) hx hb dL_law_315 (by decide) ?_
        refine lv_iadd hx hb dL_law_316 ?_
        refine va_sld hx hb hX hbl hbA hS hi_1 dL_law_317 ?_
        refine lv_aload_n hx hb dL_law_318 rfl (lv_at hl 0 rfl) ?_
        refine lv_iload_n hx hb dL_law_319 rfl (lv_at hl 3 rfl) ?_
        refine lv_iconst (v := 2) hx hb dL_law_320 (by decide) ?_
        refine lv_iadd hx hb dL_law_321 ?_
        refine va_sld hx hb hX hbl hbA hS hi_2 dL_law_322 ?_
        refine lv_i2l hx hb dL_law_323 rfl ?_
        refine lv_bipush (v := 32) hx hb dL_law_324 (by decide) ?_
        refine lv_lshl hx hb dL_law_326 rfl ?_
        refine lv_aload_n hx hb dL_law_327 rfl (lv_at hl 0 rfl) ?_
        refine lv_iload_n hx hb dL_law_328 rfl (lv_at hl 3 rfl) ?_
        refine lv_iconst (v := 3) hx hb dL_law_329 (by decide) ?_
        refine lv_iadd hx hb dL_law_330 ?_
        refine va_sld hx hb hX hbl hbA hS hi_3 dL_law_331 ?_
        refine lv_i2l hx hb dL_law_332 rfl ?_
        refine lv_ldc2 hx hb hown (hts (.constantLong RL 27 (4294967295)) (by decide +kernel)) dL_law_333 ?_
        refine lv_land hx hb dL_law_336 ?_
        refine lv_lor hx hb dL_law_337 ?_
        refine lv_aload_n hx hb dL_law_338 rfl (lv_at hl 0 rfl) ?_
        refine lv_iload_n hx hb dL_law_339 rfl (lv_at hl 3 rfl) ?_
        refine lv_iconst (v := 4) hx hb dL_law_340 (by decide) ?_
        refine lv_iadd hx hb dL_law_341 ?_
        refine va_sld hx hb hX hbl hbA hS hi_4 dL_law_342 ?_
        refine lv_i2l hx hb dL_law_343 rfl ?_
        refine lv_bipush (v := 32) hx hb dL_law_344 (by decide) ?_
        refine lv_lshl hx hb dL_law_346 rfl ?_
        refine lv_aload_n hx hb dL_law_347 rfl (lv_at hl 0 rfl) ?_
        refine lv_iload_n hx hb dL_law_348 rfl (lv_at hl 3 rfl) ?_
        refine lv_iconst (v := 5) hx hb dL_law_349 (by decide) ?_
        refine lv_iadd hx hb dL_law_350 ?_
        refine va_sld hx hb hX hbl hbA hS hi_5 dL_law_351 ?_
        refine lv_i2l hx hb dL_law_352 rfl ?_
        refine lv_ldc2 hx hb hown (hts (.constantLong RL 27 (4294967295)) (by decide +kernel)) dL_law_353 ?_
        refine lv_land hx hb dL_law_356 ?_
        refine lv_lor hx hb dL_law_357 ?_
        refine va_calli (va_runV (As := [.int (xs ((x3 + (1 : Int32))).toNatClampNeg), .long ((((xs ((x3 + (2 : Int32))).toNatClampNeg).toInt64) <<< ((32 : Int32).toInt64 &&& 63)) ||| (((xs ((x3 + (3 : Int32))).toNatClampNeg).toInt64) &&& (4294967295 : Int64))), .long ((((xs ((x3 + (4 : Int32))).toNatClampNeg).toInt64) <<< ((32 : Int32).toInt64 &&& 63)) ||| (((xs ((x3 + (5 : Int32))).toNatClampNeg).toInt64) &&& (4294967295 : Int64)))]) (rest := []) ⟨hx, hb, hml, hown, hts⟩ (mX0_paging l H.size q0 t0 (xs ((x3 + (1 : Int32))).toNatClampNeg) ((((xs ((x3 + (2 : Int32))).toNatClampNeg).toInt64) <<< ((32 : Int32).toInt64 &&& 63)) ||| (((xs ((x3 + (3 : Int32))).toNatClampNeg).toInt64) &&& (4294967295 : Int64))) ((((xs ((x3 + (4 : Int32))).toNatClampNeg).toInt64) <<< ((32 : Int32).toInt64 &&& 63)) ||| (((xs ((x3 + (5 : Int32))).toNatClampNeg).toInt64) &&& (4294967295 : Int64)))) (cwV 3 hts gL_law_X0_paging rfl rfl rfl (by decide +kernel) ⟨Nat.le_of_ble_eq_true rfl, Nat.le_of_ble_eq_true rfl⟩) ⟨fb_ww, hq0, fun U hU hW => ⟨rfl, congrArg Array.size hU, hq0.go hU hW.alike, htt.go hS hU hW.alike⟩⟩ rfl rfl hl.1 rfl (lv_room (Nat.le_of_ble_eq_true rfl)) dL_law_358 ⟨Nat.le_of_ble_eq_true rfl, Nat.le_of_ble_eq_true rfl⟩) hS (fun q _ h => Nat.le_trans hS.1 h) (fun q h => Nat.le_trans hS.1 h) (fun r_20 _ _ H_20 _ _ _ hw _ _ hk1 hS => ?_)
        subst hw
        have hq0 := hq0.keep hk1
        have hq1 := hq1.keep hk1
        clear hk1
        refine lv_pop hx hb dL_law_361 rfl ?_
        refine lv_aload_n hx hb dL_law_362 rfl (lv_at hl 2 rfl) ?_
        refine lv_aload_n hx hb dL_law_363 rfl (lv_at hl 0 rfl) ?_
        refine lv_iload_n hx hb dL_law_364 rfl (lv_at hl 3 rfl) ?_
        refine lv_iconst (v := 1) hx hb dL_law_365 (by decide) ?_
        refine lv_iadd hx hb dL_law_366 ?_
        refine va_sld hx hb hX hbl hbA hS hi_1 dL_law_367 ?_
        refine lv_aload_n hx hb dL_law_368 rfl (lv_at hl 0 rfl) ?_
        refine lv_iload_n hx hb dL_law_369 rfl (lv_at hl 3 rfl) ?_
        refine lv_iconst (v := 2) hx hb dL_law_370 (by decide) ?_
        refine lv_iadd hx hb dL_law_371 ?_
        refine va_sld hx hb hX hbl hbA hS hi_2 dL_law_372 ?_
        refine lv_i2l hx hb dL_law_373 rfl ?_
        refine lv_bipush (v := 32) hx hb dL_law_374 (by decide) ?_
        refine lv_lshl hx hb dL_law_376 rfl ?_
        refine lv_aload_n hx hb dL_law_377 rfl (lv_at hl 0 rfl) ?_
        refine lv_iload_n hx hb dL_law_378 rfl (lv_at hl 3 rfl) ?_
        refine lv_iconst (v := 3) hx hb dL_law_379 (by decide) ?_
        refine lv_iadd hx hb dL_law_380 ?_
        refine va_sld hx hb hX hbl hbA hS hi_3 dL_law_381 ?_
        refine lv_i2l hx hb dL_law_382 rfl ?_
        refine lv_ldc2 hx hb hown (hts (.constantLong RL 27 (4294967295)) (by decide +kernel)) dL_law_383 ?_
        refine lv_land hx hb dL_law_386 ?_
        refine lv_lor hx hb dL_law_387 ?_
        refine lv_aload_n hx hb dL_law_388 rfl (lv_at hl 0 rfl) ?_
        refine lv_iload_n hx hb dL_law_389 rfl (lv_at hl 3 rfl) ?_
        refine lv_iconst (v := 4) hx hb dL_law_390 (by decide) ?_
        refine lv_iadd hx hb dL_law_391 ?_
        refine va_sld hx hb hX hbl hbA hS hi_4 dL_law_392 ?_
        refine lv_i2l hx hb dL_law_393 rfl ?_
        refine lv_bipush (v := 32) hx hb dL_law_394 (by decide) ?_
        refine lv_lshl hx hb dL_law_396 rfl ?_
        refine lv_aload_n hx hb dL_law_397 rfl (lv_at hl 0 rfl) ?_
        refine lv_iload_n hx hb dL_law_398 rfl (lv_at hl 3 rfl) ?_
        refine lv_iconst (v := 5) hx hb dL_law_399 (by decide) ?_
        refine lv_iadd hx hb dL_law_400 ?_
        refine va_sld hx hb hX hbl hbA hS hi_5 dL_law_401 ?_
        refine lv_i2l hx hb dL_law_402 rfl ?_
        refine lv_ldc2 hx hb hown (hts (.constantLong RL 27 (4294967295)) (by decide +kernel)) dL_law_403 ?_
        refine lv_land hx hb dL_law_406 ?_
        refine lv_lor hx hb dL_law_407 ?_
        refine va_calli (va_runV (As := [.int (xs ((x3 + (1 : Int32))).toNatClampNeg), .long ((((xs ((x3 + (2 : Int32))).toNatClampNeg).toInt64) <<< ((32 : Int32).toInt64 &&& 63)) ||| (((xs ((x3 + (3 : Int32))).toNatClampNeg).toInt64) &&& (4294967295 : Int64))), .long ((((xs ((x3 + (4 : Int32))).toNatClampNeg).toInt64) <<< ((32 : Int32).toInt64 &&& 63)) ||| (((xs ((x3 + (5 : Int32))).toNatClampNeg).toInt64) &&& (4294967295 : Int64)))]) (rest := []) ⟨hx, hb, hml, hown, hts⟩ (mX1_paging l H_20.size q1 (xs ((x3 + (1 : Int32))).toNatClampNeg) ((((xs ((x3 + (2 : Int32))).toNatClampNeg).toInt64) <<< ((32 : Int32).toInt64 &&& 63)) ||| (((xs ((x3 + (3 : Int32))).toNatClampNeg).toInt64) &&& (4294967295 : Int64))) ((((xs ((x3 + (4 : Int32))).toNatClampNeg).toInt64) <<< ((32 : Int32).toInt64 &&& 63)) ||| (((xs ((x3 + (5 : Int32))).toNatClampNeg).toInt64) &&& (4294967295 : Int64)))) (cwV 3 hts gL_law_X1_paging rfl rfl rfl (by decide +kernel) ⟨Nat.le_of_ble_eq_true rfl, Nat.le_of_ble_eq_true rfl⟩) ⟨fb_rr, hq1, fun U hU hW => ⟨rfl, congrArg Array.size hU, hq1.go hU hW.alike⟩⟩ rfl rfl hl.1 rfl (lv_room (Nat.le_of_ble_eq_true rfl)) dL_law_408 ⟨Nat.le_of_ble_eq_true rfl, Nat.le_of_ble_eq_true rfl⟩) hS (fun q _ h => Nat.le_trans hS.1 h) (fun q h => Nat.le_trans hS.1 h) (fun r_21 _ _ H_21 _ _ _ hw _ _ hk1 hS => ?_)
        subst hw
        have hq0 := hq0.keep hk1
        have hq1 := hq1.keep hk1
        clear hk1
        refine lv_pop hx hb dL_law_411 rfl ?_
        refine lv_goto (tgt := 471) hx hb dL_law_412 (by decide) ?_
        obtain ⟨x3n, ex3n⟩ : ∃ y : Int32, y = x3 + 6 := ⟨_, rfl⟩
        refine lv_iinc (v := x3n) (lv' := [(3, .int x3n), (0, .ref b), (1, .ref q0), (2, .ref q1)]) hx hb dL_law_471 hl (k := 3) rfl (by rw [ex3n]; rfl) (by decide) rfl (fun ls hl => ?_)
        refine lv_goto (tgt := 18) hx hb dL_law_474 (by decide) ?_
        exact ih (k + 6) x3n (by omega) (by omega) (by rw [ex3n, ex3]; exact nI_add k 6) _ _ hq0 hq1 hS ls (lv_sub hl [1, 2, 3, 0] rfl)
      by_cases c_22 : ((xs (x3).toNatClampNeg) &&& (15 : Int32)) = (7 : Int32)
      · refine lv_tableIn (off := 382) (tgt := 415) hx hb dL_law_33 (by rw [c_22]; decide) (by rw [c_22]; decide) (by rw [c_22]; decide) (by decide) ?_
        refine lv_aload_n hx hb dL_law_415 rfl (lv_at hl 1 rfl) ?_
        refine lv_aload_n hx hb dL_law_416 rfl (lv_at hl 0 rfl) ?_
        refine lv_iload_n hx hb dL_law_417 rfl (lv_at hl 3 rfl) ?_
        refine lv_iconst (v := 1) hx hb dL_law_418 (by decide) ?_
        refine lv_iadd hx hb dL_law_419 ?_
        refine va_sld hx hb hX hbl hbA hS hi_1 dL_law_420 ?_
        refine va_calli (va_runV (As := [.int (xs ((x3 + (1 : Int32))).toNatClampNeg)]) (rest := []) ⟨hx, hb, hml, hown, hts⟩ (mX0_goesOn l H.size q0 t0 (xs ((x3 + (1 : Int32))).toNatClampNeg)) (cwV 1 hts gL_law_X0_goesOn rfl rfl rfl (by decide +kernel) ⟨Nat.le_of_ble_eq_true rfl, Nat.le_of_ble_eq_true rfl⟩) ⟨fb_ww, hq0, fun U hU hW => ⟨rfl, congrArg Array.size hU, hq0.go hU hW.alike, htt.go hS hU hW.alike⟩⟩ rfl rfl hl.1 rfl (lv_room (Nat.le_of_ble_eq_true rfl)) dL_law_421 ⟨Nat.le_of_ble_eq_true rfl, Nat.le_of_ble_eq_true rfl⟩) hS (fun q _ h => Nat.le_trans hS.1 h) (fun q h => Nat.le_trans hS.1 h) (fun r_23 _ _ H_23 _ _ _ hw _ _ hk1 hS => ?_)
        subst hw
        have hq0 := hq0.keep hk1
        have hq1 := hq1.keep hk1
        clear hk1
        refine lv_pop hx hb dL_law_424 rfl ?_
        refine lv_aload_n hx hb dL_law_425 rfl (lv_at hl 2 rfl) ?_
        refine lv_aload_n hx hb dL_law_426 rfl (lv_at hl 0 rfl) ?_
        refine lv_iload_n hx hb dL_law_427 rfl (lv_at hl 3 rfl) ?_
        refine lv_iconst (v := 1) hx hb dL_law_428 (by decide) ?_
        refine lv_iadd hx hb dL_law_429 ?_
        refine va_sld hx hb hX hbl hbA hS hi_1 dL_law_430 ?_
        refine va_calli (va_runV (As := [.int (xs ((x3 + (1 : Int32))).toNatClampNeg)]) (rest := []) ⟨hx, hb, hml, hown, hts⟩ (mX1_goesOn l H_23.size q1 (xs ((x3 + (1 : Int32))).toNatClampNeg)) (cwV 1 hts gL_law_X1_goesOn rfl rfl rfl (by decide +kernel) ⟨Nat.le_of_ble_eq_true rfl, Nat.le_of_ble_eq_true rfl⟩) ⟨fb_rr, hq1, fun U hU hW => ⟨rfl, congrArg Array.size hU, hq1.go hU hW.alike⟩⟩ rfl rfl hl.1 rfl (lv_room (Nat.le_of_ble_eq_true rfl)) dL_law_431 ⟨Nat.le_of_ble_eq_true rfl, Nat.le_of_ble_eq_true rfl⟩) hS (fun q _ h => Nat.le_trans hS.1 h) (fun q h => Nat.le_trans hS.1 h) (fun r_24 _ _ H_24 _ _ _ hw _ _ hk1 hS => ?_)
        subst hw
        have hq0 := hq0.keep hk1
        have hq1 := hq1.keep hk1
        clear hk1
        refine lv_pop hx hb dL_law_434 rfl ?_
        refine lv_goto (tgt := 471) hx hb dL_law_435 (by decide) ?_
        obtain ⟨x3n, ex3n⟩ : ∃ y : Int32, y = x3 + 6 := ⟨_, rfl⟩
        refine lv_iinc (v := x3n) (lv' := [(3, .int x3n), (0, .ref b), (1, .ref q0), (2, .ref q1)]) hx hb dL_law_471 hl (k := 3) rfl (by rw [ex3n]; rfl) (by decide) rfl (fun ls hl => ?_)
        refine lv_goto (tgt := 18) hx hb dL_law_474 (by decide) ?_
        exact ih (k + 6) x3n (by omega) (by omega) (by rw [ex3n, ex3]; exact nI_add k 6) _ _ hq0 hq1 hS ls (lv_sub hl [1, 2, 3, 0] rfl)
      by_cases c_25 : ((xs (x3).toNatClampNeg) &&& (15 : Int32)) = (8 : Int32)
      · refine lv_tableIn (off := 405) (tgt := 438) hx hb dL_law_33 (by rw [c_25]; decide) (by rw [c_25]; decide) (by rw [c_25]; decide) (by decide) ?_
        refine lv_aload_n hx hb dL_law_438 rfl (lv_at hl 1 rfl) ?_
        refine lv_aload_n hx hb dL_law_439 rfl (lv_at hl 0 rfl) ?_
        refine lv_iload_n hx hb dL_law_440 rfl (lv_at hl 3 rfl) ?_
        refine lv_iconst (v := 1) hx hb dL_law_441 (by decide) ?_
        refine lv_iadd hx hb dL_law_442 ?_
        refine va_sld hx hb hX hbl hbA hS hi_1 dL_law_443 ?_
        refine lv_aload_n hx hb dL_law_444 rfl (lv_at hl 0 rfl) ?_
        refine lv_iload_n hx hb dL_law_445 rfl (lv_at hl 3 rfl) ?_
        refine lv_iconst (v := 2) hx hb dL_law_446 (by decide) ?_
        refine lv_iadd hx hb dL_law_447 ?_
        refine va_sld hx hb hX hbl hbA hS hi_2 dL_law_448 ?_
        refine va_calli (va_runV (As := [.int (xs ((x3 + (1 : Int32))).toNatClampNeg), .int (xs ((x3 + (2 : Int32))).toNatClampNeg)]) (rest := []) ⟨hx, hb, hml, hown, hts⟩ (mX0_register l H.size q0 t0 (xs ((x3 + (1 : Int32))).toNatClampNeg) (xs ((x3 + (2 : Int32))).toNatClampNeg)) (cwV 2 hts gL_law_X0_register rfl rfl rfl (by decide +kernel) ⟨Nat.le_of_ble_eq_true rfl, Nat.le_of_ble_eq_true rfl⟩) ⟨fb_ww, hq0, fun U hU hW => ⟨rfl, congrArg Array.size hU, hq0.go hU hW.alike, htt.go hS hU hW.alike⟩⟩ rfl rfl hl.1 rfl (lv_room (Nat.le_of_ble_eq_true rfl)) dL_law_449 ⟨Nat.le_of_ble_eq_true rfl, Nat.le_of_ble_eq_true rfl⟩) hS (fun q _ h => Nat.le_trans hS.1 h) (fun q h => Nat.le_trans hS.1 h) (fun r_26 _ _ H_26 _ _ _ hw _ _ hk1 hS => ?_)
        subst hw
        have hq0 := hq0.keep hk1
        have hq1 := hq1.keep hk1
        clear hk1
        refine lv_pop hx hb dL_law_452 rfl ?_
        refine lv_aload_n hx hb dL_law_453 rfl (lv_at hl 2 rfl) ?_
        refine lv_aload_n hx hb dL_law_454 rfl (lv_at hl 0 rfl) ?_
        refine lv_iload_n hx hb dL_law_455 rfl (lv_at hl 3 rfl) ?_
        refine lv_iconst (v := 1) hx hb dL_law_456 (by decide) ?_
        refine lv_iadd hx hb dL_law_457 ?_
        refine va_sld hx hb hX hbl hbA hS hi_1 dL_law_458 ?_
        refine lv_aload_n hx hb dL_law_459 rfl (lv_at hl 0 rfl) ?_
        refine lv_iload_n hx hb dL_law_460 rfl (lv_at hl 3 rfl) ?_
        refine lv_iconst (v := 2) hx hb dL_law_461 (by decide) ?_
        refine lv_iadd hx hb dL_law_462 ?_
        refine va_sld hx hb hX hbl hbA hS hi_2 dL_law_463 ?_
        refine va_calli (va_runV (As := [.int (xs ((x3 + (1 : Int32))).toNatClampNeg), .int (xs ((x3 + (2 : Int32))).toNatClampNeg)]) (rest := []) ⟨hx, hb, hml, hown, hts⟩ (mX1_register l H_26.size q1 (xs ((x3 + (1 : Int32))).toNatClampNeg) (xs ((x3 + (2 : Int32))).toNatClampNeg)) (cwV 2 hts gL_law_X1_register rfl rfl rfl (by decide +kernel) ⟨Nat.le_of_ble_eq_true rfl, Nat.le_of_ble_eq_true rfl⟩) ⟨fb_rr, hq1, fun U hU hW => ⟨rfl, congrArg Array.size hU, hq1.go hU hW.alike⟩⟩ rfl rfl hl.1 rfl (lv_room (Nat.le_of_ble_eq_true rfl)) dL_law_464 ⟨Nat.le_of_ble_eq_true rfl, Nat.le_of_ble_eq_true rfl⟩) hS (fun q _ h => Nat.le_trans hS.1 h) (fun q h => Nat.le_trans hS.1 h) (fun r_27 _ _ H_27 _ _ _ hw _ _ hk1 hS => ?_)
        subst hw
        have hq0 := hq0.keep hk1
        have hq1 := hq1.keep hk1
        clear hk1
        refine lv_pop hx hb dL_law_467 rfl ?_
        refine lv_goto (tgt := 471) hx hb dL_law_468 (by decide) ?_
        obtain ⟨x3n, ex3n⟩ : ∃ y : Int32, y = x3 + 6 := ⟨_, rfl⟩
        refine lv_iinc (v := x3n) (lv' := [(3, .int x3n), (0, .ref b), (1, .ref q0), (2, .ref q1)]) hx hb dL_law_471 hl (k := 3) rfl (by rw [ex3n]; rfl) (by decide) rfl (fun ls hl => ?_)
        refine lv_goto (tgt := 18) hx hb dL_law_474 (by decide) ?_
        exact ih (k + 6) x3n (by omega) (by omega) (by rw [ex3n, ex3]; exact nI_add k 6) _ _ hq0 hq1 hS ls (lv_sub hl [1, 2, 3, 0] rfl)
      refine sw_def (tgt := 471) hx hb dL_law_33 (by decide) (fun k hk => by
          have e_0 := lv_neT c_1 (a := 0) (by decide); have e_1 := lv_neT c_4 (a := 1) (by decide); have e_2 := lv_neT c_7 (a := 2) (by decide); have e_3 := lv_neT c_10 (a := 3) (by decide); have e_4 := lv_neT c_13 (a := 4) (by decide); have e_5 := lv_neT c_16 (a := 5) (by decide); have e_6 := lv_neT c_19 (a := 6) (by decide); have e_7 := lv_neT c_22 (a := 7) (by decide); have e_8 := lv_neT c_25 (a := 8) (by decide)
          rcases (show k = 0 ∨ k = 1 ∨ k = 2 ∨ k = 3 ∨ k = 4 ∨ k = 5 ∨ k = 6 ∨ k = 7 ∨ k = 8 from by have hk9 : k < 9 := hk; omega) with rfl | rfl | rfl | rfl | rfl | rfl | rfl | rfl | rfl <;> first | exact Or.inl rfl | exact Or.inr (by omega)) (by decide) ?_
      obtain ⟨x3n, ex3n⟩ : ∃ y : Int32, y = x3 + 6 := ⟨_, rfl⟩
      refine lv_iinc (v := x3n) (lv' := [(3, .int x3n), (0, .ref b), (1, .ref q0), (2, .ref q1)]) hx hb dL_law_471 hl (k := 3) rfl (by rw [ex3n]; rfl) (by decide) rfl (fun ls hl => ?_)
      refine lv_goto (tgt := 18) hx hb dL_law_474 (by decide) ?_
      exact ih (k + 6) x3n (by omega) (by omega) (by rw [ex3n, ex3]; exact nI_add k 6) _ _ hq0 hq1 hS ls (lv_sub hl [1, 2, 3, 0] rfl)
end
section
set_option maxHeartbeats 8000000 in
set_option maxRecDepth 100000 in
/-- the static table, as the Statement gives it -/
theorem lw_table {s : State} {b : Nat} (hts : ∀ w ∈ lw_tbl, w.before #[Value.ref b] s = true) (hgv : (Jvm.Cond.and given_1 narrow_1).before #[Value.ref b] s = true) : ∃ t0 : Nat, wv_tt t0 s := by
  have hs := flat_of_before _ hgv
  have hA : ∀ a : Nat, a < s.heap.size → ¬ (fun q : Nat => s.heap.size ≤ q) a := fun a h => Nat.not_le.mpr h
  have hlen : (Term.length (.static "WordForms" "FORMS" "[I")).eval #[Value.ref b] s none [] s = some (.int (Int32.ofNat 42)) := va_eqt (hs (.eq (.length (.static "WordForms" "FORMS" "[I")) (.int (42 : Int32))) (by decide +kernel))
  have hel : ∀ j : Nat, j < 42 → (Term.elem (.static "WordForms" "FORMS" "[I") (.int (Int32.ofNat j))).eval #[Value.ref b] s none [] s = some (Value.int (fm_t.getD j 0)) := by
    intro j hj
    match j, hj with
    | 0, _ => exact va_eqt (hs (.eq (.elem (.static "WordForms" "FORMS" "[I") (.int (0 : Int32))) (.int (528482304 : Int32))) (by decide +kernel))
    | 1, _ => exact va_eqt (hs (.eq (.elem (.static "WordForms" "FORMS" "[I") (.int (1 : Int32))) (.int (285212672 : Int32))) (by decide +kernel))
    | 2, _ => exact va_eqt (hs (.eq (.elem (.static "WordForms" "FORMS" "[I") (.int (2 : Int32))) (.int (522190848 : Int32))) (by decide +kernel))
    | 3, _ => exact va_eqt (hs (.eq (.elem (.static "WordForms" "FORMS" "[I") (.int (3 : Int32))) (.int (184549376 : Int32))) (by decide +kernel))
    | 4, _ => exact va_eqt (hs (.eq (.elem (.static "WordForms" "FORMS" "[I") (.int (4 : Int32))) (.int (520093696 : Int32))) (by decide +kernel))
    | 5, _ => exact va_eqt (hs (.eq (.elem (.static "WordForms" "FORMS" "[I") (.int (5 : Int32))) (.int (167772160 : Int32))) (by decide +kernel))
    | 6, _ => exact va_eqt (hs (.eq (.elem (.static "WordForms" "FORMS" "[I") (.int (6 : Int32))) (.int (528482304 : Int32))) (by decide +kernel))
    | 7, _ => exact va_eqt (hs (.eq (.elem (.static "WordForms" "FORMS" "[I") (.int (7 : Int32))) (.int (310378496 : Int32))) (by decide +kernel))
    | 8, _ => exact va_eqt (hs (.eq (.elem (.static "WordForms" "FORMS" "[I") (.int (8 : Int32))) (.int (-1627389952 : Int32))) (by decide +kernel))
    | 9, _ => exact va_eqt (hs (.eq (.elem (.static "WordForms" "FORMS" "[I") (.int (9 : Int32))) (.int (-1879048192 : Int32))) (by decide +kernel))
    | 10, _ => exact va_eqt (hs (.eq (.elem (.static "WordForms" "FORMS" "[I") (.int (10 : Int32))) (.int (2145386496 : Int32))) (by decide +kernel))
    | 11, _ => exact va_eqt (hs (.eq (.elem (.static "WordForms" "FORMS" "[I") (.int (11 : Int32))) (.int (452984832 : Int32))) (by decide +kernel))
    | 12, _ => exact va_eqt (hs (.eq (.elem (.static "WordForms" "FORMS" "[I") (.int (12 : Int32))) (.int (2145386496 : Int32))) (by decide +kernel))
    | 13, _ => exact va_eqt (hs (.eq (.elem (.static "WordForms" "FORMS" "[I") (.int (13 : Int32))) (.int (448790528 : Int32))) (by decide +kernel))
    | 14, _ => exact va_eqt (hs (.eq (.elem (.static "WordForms" "FORMS" "[I") (.int (14 : Int32))) (.int (2145388544 : Int32))) (by decide +kernel))
    | 15, _ => exact va_eqt (hs (.eq (.elem (.static "WordForms" "FORMS" "[I") (.int (15 : Int32))) (.int (444596224 : Int32))) (by decide +kernel))
    | 16, _ => exact va_eqt (hs (.eq (.elem (.static "WordForms" "FORMS" "[I") (.int (16 : Int32))) (.int (1056964608 : Int32))) (by decide +kernel))
    | 17, _ => exact va_eqt (hs (.eq (.elem (.static "WordForms" "FORMS" "[I") (.int (17 : Int32))) (.int (956301312 : Int32))) (by decide +kernel))
    | 18, _ => exact va_eqt (hs (.eq (.elem (.static "WordForms" "FORMS" "[I") (.int (18 : Int32))) (.int (1059122176 : Int32))) (by decide +kernel))
    | 19, _ => exact va_eqt (hs (.eq (.elem (.static "WordForms" "FORMS" "[I") (.int (19 : Int32))) (.int (941647872 : Int32))) (by decide +kernel))
    | 20, _ => exact va_eqt (hs (.eq (.elem (.static "WordForms" "FORMS" "[I") (.int (20 : Int32))) (.int (-33554432 : Int32))) (by decide +kernel))
    | 21, _ => exact va_eqt (hs (.eq (.elem (.static "WordForms" "FORMS" "[I") (.int (21 : Int32))) (.int (-1476395008 : Int32))) (by decide +kernel))
    | 22, _ => exact va_eqt (hs (.eq (.elem (.static "WordForms" "FORMS" "[I") (.int (22 : Int32))) (.int (-67108864 : Int32))) (by decide +kernel))
    | 23, _ => exact va_eqt (hs (.eq (.elem (.static "WordForms" "FORMS" "[I") (.int (23 : Int32))) (.int (335544320 : Int32))) (by decide +kernel))
    | 24, _ => exact va_eqt (hs (.eq (.elem (.static "WordForms" "FORMS" "[I") (.int (24 : Int32))) (.int (-67108864 : Int32))) (by decide +kernel))
    | 25, _ => exact va_eqt (hs (.eq (.elem (.static "WordForms" "FORMS" "[I") (.int (25 : Int32))) (.int (-1811939328 : Int32))) (by decide +kernel))
    | 26, _ => exact va_eqt (hs (.eq (.elem (.static "WordForms" "FORMS" "[I") (.int (26 : Int32))) (.int (-16777200 : Int32))) (by decide +kernel))
    | 27, _ => exact va_eqt (hs (.eq (.elem (.static "WordForms" "FORMS" "[I") (.int (27 : Int32))) (.int (1409286144 : Int32))) (by decide +kernel))
    | 28, _ => exact va_eqt (hs (.eq (.elem (.static "WordForms" "FORMS" "[I") (.int (28 : Int32))) (.int (2113929216 : Int32))) (by decide +kernel))
    | 29, _ => exact va_eqt (hs (.eq (.elem (.static "WordForms" "FORMS" "[I") (.int (29 : Int32))) (.int (872415232 : Int32))) (by decide +kernel))
    | 30, _ => exact va_eqt (hs (.eq (.elem (.static "WordForms" "FORMS" "[I") (.int (30 : Int32))) (.int (2113929216 : Int32))) (by decide +kernel))
    | 31, _ => exact va_eqt (hs (.eq (.elem (.static "WordForms" "FORMS" "[I") (.int (31 : Int32))) (.int (905969664 : Int32))) (by decide +kernel))
    | 32, _ => exact va_eqt (hs (.eq (.elem (.static "WordForms" "FORMS" "[I") (.int (32 : Int32))) (.int (-993 : Int32))) (by decide +kernel))
    | 33, _ => exact va_eqt (hs (.eq (.elem (.static "WordForms" "FORMS" "[I") (.int (33 : Int32))) (.int (-702611456 : Int32))) (by decide +kernel))
    | 34, _ => exact va_eqt (hs (.eq (.elem (.static "WordForms" "FORMS" "[I") (.int (34 : Int32))) (.int (-993 : Int32))) (by decide +kernel))
    | 35, _ => exact va_eqt (hs (.eq (.elem (.static "WordForms" "FORMS" "[I") (.int (35 : Int32))) (.int (-700514304 : Int32))) (by decide +kernel))
    | 36, _ => exact va_eqt (hs (.eq (.elem (.static "WordForms" "FORMS" "[I") (.int (36 : Int32))) (.int (-993 : Int32))) (by decide +kernel))
    | 37, _ => exact va_eqt (hs (.eq (.elem (.static "WordForms" "FORMS" "[I") (.int (37 : Int32))) (.int (-698417152 : Int32))) (by decide +kernel))
    | 38, _ => exact va_eqt (hs (.eq (.elem (.static "WordForms" "FORMS" "[I") (.int (38 : Int32))) (.int (-2097121 : Int32))) (by decide +kernel))
    | 39, _ => exact va_eqt (hs (.eq (.elem (.static "WordForms" "FORMS" "[I") (.int (39 : Int32))) (.int (-738197503 : Int32))) (by decide +kernel))
    | 40, _ => exact va_eqt (hs (.eq (.elem (.static "WordForms" "FORMS" "[I") (.int (40 : Int32))) (.int (-1 : Int32))) (by decide +kernel))
    | 41, _ => exact va_eqt (hs (.eq (.elem (.static "WordForms" "FORMS" "[I") (.int (41 : Int32))) (.int (-721215457 : Int32))) (by decide +kernel))
    | n + 42, hj => exact absurd hj (by omega)
  obtain ⟨t, ht, hT⟩ := va_Tof (f := fun j => Value.int (fm_t.getD j 0)) (by decide) (hs (.arrayOf (.static "WordForms" "FORMS" "[I") .int) (by decide +kernel)) hlen hel hA
  exact ⟨t, va_Zref (hts (.laysStatic "WordForms" "FORMS" "[I") (by decide +kernel)) (hts (.initialized "WordForms") (by decide +kernel)) ht hA, hT⟩
set_option maxHeartbeats 8000000 in
set_option maxRecDepth 100000 in
/-- THE LAW, from its entry -/
theorem whole_start {p : Program} {e : Env} {s : State} {m : MethodId} {below : List Frame} {meth : Method} {c : Code} (l : Launch) {b L : Nat} {xs : Nat → Int32} (hL : L ≤ 3072) (C0 : lw_At p s m meth c b L xs) : W p l e room_1 s m #[Value.ref b] below meth c s.heap [] 0 0 (lw_Z below #[Value.ref b] s) (entryFrame m ([Value.ref b] : List Value).toArray 4) := by
  obtain ⟨hx, hb, hr, hml, hown, hts0, hX, hbl, hlocks, hgv⟩ := id C0
  have hown : s.vm.findClass RL = some m.cls := hown
  have hts : ∀ w ∈ wsL_law, w.before #[Value.ref b] s = true := fun w h => hts0 w (wsL_law_in w h)
  have hA : ∀ q : Nat, s.heap.size ≤ q → (fun q : Nat => s.heap.size ≤ q) q := fun _ h => h
  obtain ⟨t0, htt⟩ := lw_table hts0 hgv
  obtain ⟨c0, iS0, hKn0⟩ := u_known (C := RX0) (T := TX0) (N := 0) (n := 0) hts0 inX0 (hts0 (.instantiable RX0 0) (by decide +kernel))
  obtain ⟨c1, iS1, hKn1⟩ := u_known (C := RX1) (T := TX1) (N := 0) (n := 0) hts0 inX1 (hts0 (.instantiable RX1 0) (by decide +kernel))
  obtain ⟨dC, dI, hKc⟩ : ∃ (dC : Nat → ClassId) (dI : Nat → Nat → Nat), ∀ (k : Nat) (q : vw_C), vwCl[k]? = some q → u_Kn s q.1 q.2.1 q.2.2 (dC k) (dI k) := by
    refine ⟨fun k => if k = 0 then c0 else c1, fun k => if k = 0 then iS0 else iS1, ?_⟩
    intro k q hq
    match k, hq with
    | 0, hq => cases hq; exact hKn0
    | 1, hq => cases hq; exact hKn1
    | k + 2, hq => simp [vwCl] at hq
  have hS : va_S (fun q : Nat => s.heap.size ≤ q) s.heap s.heap [] := va_S.rf
  have hK : va_K (dC, dI) vwCl [] s := ⟨hKc, fun k q h => by simp at h⟩
  have hP : va_P (dC, dI) vwCl [] s.heap := fun k q h => by simp at h
  have hD : va_D (fun q : Nat => s.heap.size ≤ q) [] := ⟨fun i j p q h => by simp at h, fun k q h => by simp at h⟩
  have hl := lv_entry ([.ref b]) (n := 4) (Nat.le_of_ble_eq_true rfl)
  rw [lg_entry_eq]
  generalize (lg_sl ([.ref b]) ++ List.replicate (4 - (lg_sl ([.ref b])).length) Slot.unset).toArray = ls at hl ⊢
  have hl : lv_has ls 4 [(0, .ref b)] := hl
  refine va_new (ci := 0) (fs := []) (C := RX0) (T := TX0) (N := 0) hx hb hts0 inX0 tyX0 tyX0_ok hown (hts0 (.classLink RL 7 RX0) (by decide +kernel)) (hts0 (.instantiable RX0 0) (by decide +kernel)) (hts0 (.initialized RX0) (by decide +kernel)) hK hP hD hS hA rfl (fun j hj => absurd hj (Nat.not_lt_zero j)) (Nat.le_of_ble_eq_true rfl) (Nat.le_of_ble_eq_true rfl) dL_law_0 (fun q0 H hP hD hS => ?_)
  have hP : va_P (dC, dI) vwCl [(q0, .inr (0, []))] H := hP
  have hD : va_D (fun q : Nat => s.heap.size ≤ q) [(q0, .inr (0, []))] := hD
  refine W.widen (k := 1) (n := 0) (by omega) (by omega) ?_
  refine lv_dup hx hb dL_law_3 rfl ?_
  refine va_callv (va_runI (As := []) (rest := [.ref q0]) ⟨hx, hb, hml, hown, hts⟩ (mX0_init l H.size q0) (cwI 0 hts gL_law_X0_init rfl rfl rfl (hts (.initialized RX0) (by decide +kernel)) (hts (.methodLink RL 9 yX0_init) (by decide +kernel)) (hts (.instanceMethod yX0_init) (by decide +kernel)) rfl (by decide +kernel) ⟨Nat.le_of_ble_eq_true rfl, Nat.le_of_ble_eq_true rfl⟩) ⟨fb_pure, fun U hU hW => ⟨rfl, congrArg Array.size hU⟩⟩ rfl rfl hl.1 rfl (lv_room (Nat.le_of_ble_eq_true rfl)) dL_law_4 ⟨Nat.le_of_ble_eq_true rfl, Nat.le_of_ble_eq_true rfl⟩) hS (fun q _ h => Nat.le_trans hS.1 h) (fun q h => Nat.le_trans hS.1 h) (fun _ _ H1 _ _ _ _ _ _ hk1 hS => ?_)
  have hP : va_P (dC, dI) vwCl [(q0, .inr (0, []))] H1 := fun k q h => (hP k q h).kept (hk1 q.1 (hP k q h).lt (Nat.not_le.mpr (hP k q h).lt))
  clear hk1
  refine lv_astore_n (lv' := [(1, .ref q0), (0, .ref b)]) hx hb dL_law_7 rfl hl (by decide) rfl (fun ls hl => ?_)
  refine va_new (ci := 1) (fs := []) (C := RX1) (T := TX1) (N := 0) hx hb hts0 inX1 tyX1 tyX1_ok hown (hts0 (.classLink RL 10 RX1) (by decide +kernel)) (hts0 (.instantiable RX1 0) (by decide +kernel)) (hts0 (.initialized RX1) (by decide +kernel)) hK hP hD hS hA rfl (fun j hj => absurd hj (Nat.not_lt_zero j)) (Nat.le_of_ble_eq_true rfl) (Nat.le_of_ble_eq_true rfl) dL_law_8 (fun q1 H2 hP hD hS => ?_)
  have hP : va_P (dC, dI) vwCl [(q0, .inr (0, [])), (q1, .inr (1, []))] H2 := hP
  refine W.widen (k := 2) (n := 0) (by omega) (by omega) ?_
  refine lv_dup hx hb dL_law_11 rfl ?_
  have hq0 : wv_lrc RX0 q0 s H2 := va_recv hK hP (ci := 0) (q0 := 0) rfl rfl
  have hq1 : wv_lrc RX1 q1 s H2 := va_recv hK hP (ci := 1) (q0 := 1) rfl rfl
  refine va_callv (va_runI (As := []) (rest := [.ref q1]) ⟨hx, hb, hml, hown, hts⟩ (mX1_init l H2.size q1) (cwI 0 hts gL_law_X1_init rfl rfl rfl (hts (.initialized RX1) (by decide +kernel)) (hts (.methodLink RL 12 yX1_init) (by decide +kernel)) (hts (.instanceMethod yX1_init) (by decide +kernel)) rfl (by decide +kernel) ⟨Nat.le_of_ble_eq_true rfl, Nat.le_of_ble_eq_true rfl⟩) ⟨fb_pure, fun U hU hW => ⟨rfl, congrArg Array.size hU⟩⟩ rfl rfl hl.1 rfl (lv_room (Nat.le_of_ble_eq_true rfl)) dL_law_12 ⟨Nat.le_of_ble_eq_true rfl, Nat.le_of_ble_eq_true rfl⟩) hS (fun q _ h => Nat.le_trans hS.1 h) (fun q h => Nat.le_trans hS.1 h) (fun _ _ H3 _ _ _ _ _ _ hk1 hS => ?_)
  have hq0 := hq0.keep hk1
  have hq1 := hq1.keep hk1
  refine lv_astore_n (lv' := [(2, .ref q1), (1, .ref q0), (0, .ref b)]) hx hb dL_law_15 rfl hl (by decide) rfl (fun ls hl => ?_)
  refine lv_iconst (v := 0) hx hb dL_law_16 (by decide) ?_
  refine lv_istore_n (lv' := [(3, .int 0), (2, .ref q1), (1, .ref q0), (0, .ref b)]) hx hb dL_law_17 rfl hl (by decide) rfl (fun ls hl => ?_)
  exact law_loop hL C0 t0 htt q0 q1 (L + 1) 0 0 (Nat.zero_le L) (by omega) nI_0.symm _ _ hq0 hq1 hS ls (lv_sub hl [3, 2, 1, 0] rfl)
-- ===== YOUR PART ENDS =====
set_option maxHeartbeats 4000000 in
theorem lw_walk (l : Launch) (b : Addr) (xs : List Int32) : MetFree l x (headSpec (Jvm.Cond.code x code maxLocals ret :: tables_1) room_1) (lw_P b xs) (fun _ _ _ _ _ => True) lw_Q := by
  refine MetFree.of_bodyS (code := code) (maxLocals := maxLocals) (ret := ret) (by decide) ?_ ?_
  · intro args s m h hn
    obtain ⟨meth, c, h1, h2, h3, h4, h5, h6, -, -⟩ := Cond.code_spec hn (atoms_spec (ws := Jvm.Cond.code x code maxLocals ret :: tables_1) h _ List.mem_cons_self)
    exact ⟨meth, c, h1, h2, h3, h4, h5, h6⟩
  · intro p e s m args below meth c s₁ B hml0 hP _
    obtain ⟨rfl, hx, hbd, hgv⟩ := hP
    obtain ⟨scr, harrAt, hlist, hof, hsmall⟩ := hx
    obtain ⟨hcb, hkn, -, -⟩ := State.arrayAt?_spec harrAt
    have hown : s.vm.findClass R_law = some m.cls := findClass_of_methodNamed B.named
    have hts0 : ∀ c ∈ (Jvm.Cond.code x code maxLocals ret :: tables_1), c.before #[Value.ref b] s = true := atoms_spec (ws := Jvm.Cond.code x code maxLocals ret :: tables_1) B.pre
    have hts : ∀ w ∈ lw_tbl, w.before #[Value.ref b] s = true := k2_hts_sels lw_privs (fun w hw => hts0 w (List.mem_cons_of_mem _ hw)) lw_privs_ok
    have hml : c.maxLocals = 4 := B.maxLocals_eq (hts0 _ List.mem_cons_self)
    have X₀ : Stand p l e room_1 s m #[Value.ref b] below meth c s₁ [] 0 0 := Stand.of_body B
    have hh0 : s₁.heap = s.heap := by rw [B.state]; rfl
    have hsz : scr.slots.size = xs.length := by rw [← Array.length_toList, hlist, List.length_map]
    have hval : ∀ j : Nat, j < xs.length → scr.slots[j]? = some (.int (xs.getD j 0)) := fun j hj => by
      rw [← Array.getElem?_toList, hlist]
      simp [hj]
    have hbl : b < s.heap.size := (Array.getElem?_eq_some_iff.mp hcb).1
    have hX : va_X b xs.length (fun j => xs.getD j 0) s s.heap := ⟨scr, hcb, hof, hkn, hsz, hval⟩
    have K : W p l e room_1 s m #[Value.ref b] below meth c s₁.heap [] 0 0 (lw_Z below #[Value.ref b] s) (entryFrame m ([Value.ref b] : List Value).toArray 4) := by
      rw [hh0]
      exact whole_start l hbd ⟨B.exec, B.bytes, B.returns, hml, hown, hts, hX, hbl, B.notSynchronized, hgv⟩
    obtain ⟨t, a1, o, b1, b2, b3⟩ := K s₁ rfl X₀
    exact ⟨t, o, a1, b1, b2, b3⟩
theorem lw_pre_spec {args : Array Value} {s : State} (h : (Jvm.Cond.and given_1 narrow_1).before args s = true) (hr : rest_1_c.before args s = true) : ∃ (b : Addr) (xs : List Int32), lw_P b xs args s := by
  have hs := flat_of_before _ h
  have hq := flat_of_before _ hr
  have hc : (Cond.count 1).before args s = true := hs _ (by decide +kernel)
  have harr : (Cond.arrayOf (.arg 0) .int).before args s = true := hs _ (by decide +kernel)
  have hle : (Cond.le (.length (.arg 0)) (.int 3072)).before args s = true := hs _ (by decide +kernel)
  have hlen : (Cond.isInt (.length (.arg 0))).before args s = true := hq _ (by decide +kernel)
  have hall : (Cond.all (.arg 0) (.isInt (.elem (.arg 0) (.index 0)))).before args s = true := hq _ (by decide +kernel)
  obtain ⟨b, xs, hb, hx⟩ := State.ints_of_pre rfl harr hlen hall
  have hsm : xs.length < 2 ^ 31 := hx.choose_spec.2.2.2
  have hev : (Term.length (.arg 0)).eval args s none [] s = some (.int xs.length.toInt32) := hx.length_eval hb
  have hv := Cond.le_ints hev (show (Term.int 3072).eval args s none [] s = some (.int 3072) from rfl)
  have hd : xs.length.toInt32 ≤ 3072 := by
    simpa [Cond.before, Cond.holds, hv] using hle
  have hN : xs.length ≤ 3072 := (Int32.ofNat_le_ofNat hsm (by decide)).mp (show Int32.ofNat xs.length ≤ Int32.ofNat 3072 from hd)
  exact ⟨b, xs, Cond.one_arg hc (show args[0]? = some (.ref b) from hb), hx, hN, h⟩
theorem lw_comes (l : Launch) : Comes l x (Jvm.Cond.code x code maxLocals ret :: tables_1) room_1 (fun tb e args s => Calls_1 tb e args s ∧ rest_1 tb e args s ∧ Pre_1 tb e args s)
    (fun _ _ args s o t => lw_Q args s o t) := by
  intro p e ha hc hk s m args below hf hfit hheap happ hpre
  obtain ⟨b, xs, hP⟩ := lw_pre_spec hpre.2.2 hpre.2.1
  obtain ⟨k, o, h1, h2, h3, hQ⟩ := lw_walk l b xs p e ha hc hk s m args below hf ((Spec.applies_iff_loose hf).mp happ).1 hP trivial
  exact ⟨k, o, h1, h2, h3, hQ⟩
theorem lw_frame {s t : State} {o : Outcome} {args : Array Value} (h : Framed s o t [] 2 0) :
    Framed s o t (fieldLocs frame_1_writes args s ++ arrayLocs frame_1_arrays args s ++ staticLocs frame_1_statics s) 2 0 := h
theorem lw_limb (L : Cond) (hL : ∀ (args : Array Value) (s t : State), L.after args s (.returned (some (.int 1))) t = true) :
    ArmFor flags0 classFile x code maxLocals ret World_1 tables_1 room_1 Calls_1 rest_1 Pre_1
      (fun tb e a s o t => postC L tb e a s o t ∧ Framed s o t (fieldLocs frame_1_writes a s ++ arrayLocs frame_1_arrays a s ++ staticLocs frame_1_statics s) 2 0) := by
  intro l _ _ _ p e ha hc hk s m args below hf hfit hheap happ hpre
  obtain ⟨k, o, h1, h2, h3, rfl, hF⟩ := lw_comes l p e ha hc hk s m args below hf hfit hheap happ hpre
  exact ⟨k, _, h1, h2, h3, hL args s _, lw_frame hF⟩
theorem i_vc : Claimed_1_1 ∧ Claimed_1_2 := ⟨lw_limb limb_1_1 (fun args s t => by simp [limb_1_1, Cond.after, Cond.holds, Cond.value]), lw_limb limb_1_2 (fun args s t => Cond.after_iff.mpr (by
  first | (rw [show limb_1_2 = Cond.eq .result (.int 1) from rfl, Cond.eq_ints (x := 1) (y := 1) rfl rfl]; simp; done) | (simp [limb_1_2, Cond.value, Term.eval]; done)))⟩
end
