section
-- ===== PART A: goes FIRST, ahead of the names: the tables' words, and 'selects' of the private methods out of them =====
/-- a private method of a class that the tables say can be made, by its rows of tables_1 -/
def lw_okq (q : MethodName × Nat) : Prop := (q.1.cls ≠ "java/lang/invoke/MethodHandle" ∧ q.1.cls ≠ "java/lang/invoke/VarHandle") ∧ Cond.instantiable q.1.cls q.2 ∈ tables_1 ∧ Cond.privateMethod q.1 ∈ tables_1 ∧ Cond.instanceMethod q.1 ∈ tables_1
theorem lw_p0 : lw_okq (⟨"LadderGrid", "isRow", "(I)Z"⟩, 9) := ⟨⟨by decide +kernel, by decide +kernel⟩, List.mem_of_getElem? (i := 5) (by decide +kernel), List.mem_of_getElem? (i := 53) (by decide +kernel), List.mem_of_getElem? (i := 54) (by decide +kernel)⟩
theorem lw_p1 : lw_okq (⟨"LadderGrid", "passColumn", "(I)V"⟩, 9) := ⟨⟨by decide +kernel, by decide +kernel⟩, List.mem_of_getElem? (i := 5) (by decide +kernel), List.mem_of_getElem? (i := 88) (by decide +kernel), List.mem_of_getElem? (i := 89) (by decide +kernel)⟩
theorem lw_p2 : lw_okq (⟨"LadderGrid", "shareAlongLinks", "(I)V"⟩, 9) := ⟨⟨by decide +kernel, by decide +kernel⟩, List.mem_of_getElem? (i := 5) (by decide +kernel), List.mem_of_getElem? (i := 95) (by decide +kernel), List.mem_of_getElem? (i := 96) (by decide +kernel)⟩
theorem lw_p3 : lw_okq (⟨"LadderGrid", "driveCoils", "()I"⟩, 9) := ⟨⟨by decide +kernel, by decide +kernel⟩, List.mem_of_getElem? (i := 5) (by decide +kernel), List.mem_of_getElem? (i := 99) (by decide +kernel), List.mem_of_getElem? (i := 100) (by decide +kernel)⟩
theorem lw_p4 : lw_okq (⟨"LadderGrid", "isLine", "(I)Z"⟩, 9) := ⟨⟨by decide +kernel, by decide +kernel⟩, List.mem_of_getElem? (i := 5) (by decide +kernel), List.mem_of_getElem? (i := 110) (by decide +kernel), List.mem_of_getElem? (i := 111) (by decide +kernel)⟩
theorem lw_p5 : lw_okq (⟨"LadderGrid", "lineSteps", "(I)I"⟩, 9) := ⟨⟨by decide +kernel, by decide +kernel⟩, List.mem_of_getElem? (i := 5) (by decide +kernel), List.mem_of_getElem? (i := 118) (by decide +kernel), List.mem_of_getElem? (i := 119) (by decide +kernel)⟩
theorem lw_p6 : lw_okq (⟨"LadderGrid", "coilSteps", "()I"⟩, 9) := ⟨⟨by decide +kernel, by decide +kernel⟩, List.mem_of_getElem? (i := 5) (by decide +kernel), List.mem_of_getElem? (i := 127) (by decide +kernel), List.mem_of_getElem? (i := 128) (by decide +kernel)⟩
theorem lw_p7 : lw_okq (⟨"LadderGridModel", "isCell", "(II)Z"⟩, 10) := ⟨⟨by decide +kernel, by decide +kernel⟩, List.mem_of_getElem? (i := 135) (by decide +kernel), List.mem_of_getElem? (i := 182) (by decide +kernel), List.mem_of_getElem? (i := 183) (by decide +kernel)⟩
theorem lw_p8 : lw_okq (⟨"LadderGridModel", "lets", "(I)Z"⟩, 10) := ⟨⟨by decide +kernel, by decide +kernel⟩, List.mem_of_getElem? (i := 135) (by decide +kernel), List.mem_of_getElem? (i := 205) (by decide +kernel), List.mem_of_getElem? (i := 206) (by decide +kernel)⟩
theorem lw_p9 : lw_okq (⟨"LadderGridModel", "spread", "(I)V"⟩, 10) := ⟨⟨by decide +kernel, by decide +kernel⟩, List.mem_of_getElem? (i := 135) (by decide +kernel), List.mem_of_getElem? (i := 209) (by decide +kernel), List.mem_of_getElem? (i := 210) (by decide +kernel)⟩
theorem lw_p10 : lw_okq (⟨"LadderGridModel", "coils", "()I"⟩, 10) := ⟨⟨by decide +kernel, by decide +kernel⟩, List.mem_of_getElem? (i := 135) (by decide +kernel), List.mem_of_getElem? (i := 213) (by decide +kernel), List.mem_of_getElem? (i := 214) (by decide +kernel)⟩
theorem lw_p11 : lw_okq (⟨"LadderGridModel", "lineSteps", "(I)I"⟩, 10) := ⟨⟨by decide +kernel, by decide +kernel⟩, List.mem_of_getElem? (i := 135) (by decide +kernel), List.mem_of_getElem? (i := 225) (by decide +kernel), List.mem_of_getElem? (i := 226) (by decide +kernel)⟩
def lw_privs_1 : List (MethodName × Nat) := [(⟨"LadderGrid", "isRow", "(I)Z"⟩, 9), (⟨"LadderGrid", "passColumn", "(I)V"⟩, 9), (⟨"LadderGrid", "shareAlongLinks", "(I)V"⟩, 9), (⟨"LadderGrid", "driveCoils", "()I"⟩, 9), (⟨"LadderGrid", "isLine", "(I)Z"⟩, 9), (⟨"LadderGrid", "lineSteps", "(I)I"⟩, 9), (⟨"LadderGrid", "coilSteps", "()I"⟩, 9), (⟨"LadderGridModel", "isCell", "(II)Z"⟩, 10), (⟨"LadderGridModel", "lets", "(I)Z"⟩, 10), (⟨"LadderGridModel", "spread", "(I)V"⟩, 10), (⟨"LadderGridModel", "coils", "()I"⟩, 10), (⟨"LadderGridModel", "lineSteps", "(I)I"⟩, 10)]
theorem lw_r1 : ∀ q ∈ lw_privs_1, lw_okq q := List.forall_mem_cons.mpr ⟨lw_p0, List.forall_mem_cons.mpr ⟨lw_p1, List.forall_mem_cons.mpr ⟨lw_p2, List.forall_mem_cons.mpr ⟨lw_p3, List.forall_mem_cons.mpr ⟨lw_p4, List.forall_mem_cons.mpr ⟨lw_p5, List.forall_mem_cons.mpr ⟨lw_p6, List.forall_mem_cons.mpr ⟨lw_p7, List.forall_mem_cons.mpr ⟨lw_p8, List.forall_mem_cons.mpr ⟨lw_p9, List.forall_mem_cons.mpr ⟨lw_p10, List.forall_mem_cons.mpr ⟨lw_p11, fun _ h => absurd h List.not_mem_nil⟩⟩⟩⟩⟩⟩⟩⟩⟩⟩⟩⟩
def lw_privs : List (MethodName × Nat) := lw_privs_1
def lw_tbl : List Cond := k2_sels lw_privs ++ tables_1
theorem lw_privs_ok : ∀ q ∈ lw_privs, lw_okq q := lw_r1
-- ===== end of PART A; then your names; then what follows =====
end
section
/-! ===== BEGIN words of one list among another's, by their places ===== -/
theorem goodIn_r {big : List Cond} (ws : List Cond) (ps : List Nat) (hp : ws = ps.filterMap (fun i => big[i]?)) (h : ws.all goodWord = true) : GoodIn big ws := by
  intro w hw
  have h1 := List.all_eq_true.mp h w hw
  rw [hp] at hw
  obtain ⟨i, -, hi⟩ := List.mem_filterMap.mp hw
  have hm : w ∈ big := by first | exact List.mem_of_getElem? hi | exact List.getElem?_mem hi
  exact ⟨hm, good_of_word h1⟩
theorem goodIn_app {big a b : List Cond} (ha : GoodIn big a) (hb : GoodIn big b) : GoodIn big (a ++ b) := fun w h => (List.mem_append.mp h).elim (ha w) (hb w)
theorem goodIn_ca {big a b : List Cond} {c : Cond} (ha : GoodIn big (c :: a)) (hb : GoodIn big b) : GoodIn big (c :: (a ++ b)) := fun w h => (List.mem_cons.mp h).elim (fun e => ha w (List.mem_cons.mpr (Or.inl e))) (fun h => (List.mem_append.mp h).elim (fun h => ha w (List.mem_cons.mpr (Or.inr h))) (hb w))
theorem goodIn_sub {big ws : List Cond} (hm : ∀ w ∈ ws, w ∈ big) (h : ws.all goodWord = true) : GoodIn big ws := fun w hw => ⟨hm w hw, good_of_word (List.all_eq_true.mp h w hw)⟩
/-! ===== END ===== -/

/-! ===== BEGIN printed: names, fields, word lists, decode rows ===== -/
def RX0 : String := "LadderGrid"
def TX0 : u_T := fun k => match k with
  | 0 => ("LadderGrid", "kinds", "[I", true)
  | 1 => ("LadderGrid", "cellVariables", "[I", true)
  | 2 => ("LadderGrid", "seen", "[I", true)
  | 3 => ("LadderGrid", "links", "[I", true)
  | 4 => ("LadderGrid", "powered", "[I", true)
  | 5 => ("LadderGrid", "values", "[I", true)
  | 6 => ("LadderGrid", "rows", "I", false)
  | 7 => ("LadderGrid", "columns", "I", false)
  | _ => ("LadderGrid", "scanned", "Z", false)
def tyX0 : Nat → FieldType := fun k => match k with
  | 0 => .array .int
  | 1 => .array .int
  | 2 => .array .int
  | 3 => .array .int
  | 4 => .array .int
  | 5 => .array .int
  | 6 => .int
  | 7 => .int
  | _ => .boolean
abbrev wsX00 : List Cond := u_ws RX0 TX0 9
theorem nmX0 : ∀ a, a < 9 → ∀ b, b < 9 → a ≠ b → (TX0 a).2.1 ≠ (TX0 b).2.1 := by decide +kernel
theorem tyX0_ok : ∀ k, k < 9 → parseFieldDescriptor (TX0 k).2.2.1 = some (tyX0 k) := by decide +kernel
abbrev cX0_init : ByteArray := prog_1_method_1_code
def yX0_init : MethodName := ⟨RX0, "<init>", "()V"⟩
abbrev cX0_begin : ByteArray := prog_1_method_2_code
def yX0_begin : MethodName := ⟨RX0, "begin", "(II)I"⟩
abbrev cX0_cell : ByteArray := prog_1_method_3_code
def yX0_cell : MethodName := ⟨RX0, "cell", "(IIII)I"⟩
abbrev cX0_link : ByteArray := prog_1_method_4_code
def yX0_link : MethodName := ⟨RX0, "link", "(IIZ)I"⟩
abbrev cX0_set : ByteArray := prog_1_method_5_code
def yX0_set : MethodName := ⟨RX0, "set", "(II)I"⟩
abbrev cX0_get : ByteArray := prog_1_method_6_code
def yX0_get : MethodName := ⟨RX0, "get", "(I)I"⟩
abbrev cX0_scan : ByteArray := prog_1_method_7_code
def yX0_scan : MethodName := ⟨RX0, "scan", "()I"⟩
abbrev cX0_power : ByteArray := prog_1_method_8_code
def yX0_power : MethodName := ⟨RX0, "power", "(II)I"⟩
abbrev cX0_steps : ByteArray := prog_1_method_9_code
def yX0_steps : MethodName := ⟨RX0, "steps", "()I"⟩
abbrev cX0_groups : ByteArray := prog_1_method_10_code
def yX0_groups : MethodName := ⟨RX0, "groups", "(I)I"⟩
abbrev cX0_passColumn : ByteArray := prog_1_method_11_code
def yX0_passColumn : MethodName := ⟨RX0, "passColumn", "(I)V"⟩
abbrev cX0_shareAlongLinks : ByteArray := prog_1_method_12_code
def yX0_shareAlongLinks : MethodName := ⟨RX0, "shareAlongLinks", "(I)V"⟩
abbrev cX0_driveCoils : ByteArray := prog_1_method_13_code
def yX0_driveCoils : MethodName := ⟨RX0, "driveCoils", "()I"⟩
abbrev cX0_lineSteps : ByteArray := prog_1_method_14_code
def yX0_lineSteps : MethodName := ⟨RX0, "lineSteps", "(I)I"⟩
abbrev cX0_coilSteps : ByteArray := prog_1_method_15_code
def yX0_coilSteps : MethodName := ⟨RX0, "coilSteps", "()I"⟩
abbrev cX0_isRow : ByteArray := prog_1_method_16_code
def yX0_isRow : MethodName := ⟨RX0, "isRow", "(I)Z"⟩
abbrev cX0_isLine : ByteArray := prog_1_method_17_code
def yX0_isLine : MethodName := ⟨RX0, "isLine", "(I)Z"⟩
abbrev cX0_joiningSteps : ByteArray := prog_1_method_18_code
def yX0_joiningSteps : MethodName := ⟨RX0, "joiningSteps", "(I)I"⟩
abbrev cX0_letsThrough : ByteArray := prog_1_method_19_code
def yX0_letsThrough : MethodName := ⟨RX0, "letsThrough", "(III)Z"⟩
abbrev cX0_coilValue : ByteArray := prog_1_method_20_code
def yX0_coilValue : MethodName := ⟨RX0, "coilValue", "(III)I"⟩
abbrev cX0_isVariable : ByteArray := prog_1_method_21_code
def yX0_isVariable : MethodName := ⟨RX0, "isVariable", "(I)Z"⟩
abbrev cX0_hasVariable : ByteArray := prog_1_method_22_code
def yX0_hasVariable : MethodName := ⟨RX0, "hasVariable", "(I)Z"⟩
abbrev cX0_isCoil : ByteArray := prog_1_method_23_code
def yX0_isCoil : MethodName := ⟨RX0, "isCoil", "(I)Z"⟩
abbrev cX0_cellAt : ByteArray := prog_1_method_24_code
def yX0_cellAt : MethodName := ⟨RX0, "cellAt", "(II)I"⟩
abbrev cX0_pointAt : ByteArray := prog_1_method_25_code
def yX0_pointAt : MethodName := ⟨RX0, "pointAt", "(II)I"⟩
def RX1 : String := "LadderGridModel"
def TX1 : u_T := fun k => match k with
  | 0 => ("LadderGridModel", "rows", "I", false)
  | 1 => ("LadderGridModel", "columns", "I", false)
  | 2 => ("LadderGridModel", "kinds", "[I", true)
  | 3 => ("LadderGridModel", "variables", "[I", true)
  | 4 => ("LadderGridModel", "before", "[I", true)
  | 5 => ("LadderGridModel", "isLinked", "[Z", true)
  | 6 => ("LadderGridModel", "values", "[I", true)
  | 7 => ("LadderGridModel", "then", "[I", true)
  | 8 => ("LadderGridModel", "hasPower", "[Z", true)
  | _ => ("LadderGridModel", "isScanned", "Z", false)
def tyX1 : Nat → FieldType := fun k => match k with
  | 0 => .int
  | 1 => .int
  | 2 => .array .int
  | 3 => .array .int
  | 4 => .array .int
  | 5 => .array .boolean
  | 6 => .array .int
  | 7 => .array .int
  | 8 => .array .boolean
  | _ => .boolean
abbrev wsX10 : List Cond := u_ws RX1 TX1 10
theorem nmX1 : ∀ a, a < 10 → ∀ b, b < 10 → a ≠ b → (TX1 a).2.1 ≠ (TX1 b).2.1 := by decide +kernel
theorem tyX1_ok : ∀ k, k < 10 → parseFieldDescriptor (TX1 k).2.2.1 = some (tyX1 k) := by decide +kernel
abbrev cX1_init : ByteArray := prog_3_method_1_code
def yX1_init : MethodName := ⟨RX1, "<init>", "()V"⟩
abbrev cX1_isCell : ByteArray := prog_3_method_2_code
def yX1_isCell : MethodName := ⟨RX1, "isCell", "(II)Z"⟩
abbrev cX1_isVariable : ByteArray := prog_3_method_3_code
def yX1_isVariable : MethodName := ⟨RX1, "isVariable", "(I)Z"⟩
abbrev cX1_begin : ByteArray := prog_3_method_4_code
def yX1_begin : MethodName := ⟨RX1, "begin", "(II)I"⟩
abbrev cX1_cell : ByteArray := prog_3_method_5_code
def yX1_cell : MethodName := ⟨RX1, "cell", "(IIII)I"⟩
abbrev cX1_link : ByteArray := prog_3_method_6_code
def yX1_link : MethodName := ⟨RX1, "link", "(IIZ)I"⟩
abbrev cX1_set : ByteArray := prog_3_method_7_code
def yX1_set : MethodName := ⟨RX1, "set", "(II)I"⟩
abbrev cX1_get : ByteArray := prog_3_method_8_code
def yX1_get : MethodName := ⟨RX1, "get", "(I)I"⟩
abbrev cX1_lets : ByteArray := prog_3_method_9_code
def yX1_lets : MethodName := ⟨RX1, "lets", "(I)Z"⟩
abbrev cX1_spread : ByteArray := prog_3_method_10_code
def yX1_spread : MethodName := ⟨RX1, "spread", "(I)V"⟩
abbrev cX1_coils : ByteArray := prog_3_method_11_code
def yX1_coils : MethodName := ⟨RX1, "coils", "()I"⟩
abbrev cX1_scan : ByteArray := prog_3_method_12_code
def yX1_scan : MethodName := ⟨RX1, "scan", "()I"⟩
abbrev cX1_power : ByteArray := prog_3_method_13_code
def yX1_power : MethodName := ⟨RX1, "power", "(II)I"⟩
abbrev cX1_term : ByteArray := prog_3_method_14_code
def yX1_term : MethodName := ⟨RX1, "term", "(I)I"⟩
abbrev cX1_lineSteps : ByteArray := prog_3_method_15_code
def yX1_lineSteps : MethodName := ⟨RX1, "lineSteps", "(I)I"⟩
abbrev cX1_steps : ByteArray := prog_3_method_16_code
def yX1_steps : MethodName := ⟨RX1, "steps", "()I"⟩
abbrev cX1_groups : ByteArray := prog_3_method_17_code
def yX1_groups : MethodName := ⟨RX1, "groups", "(I)I"⟩
def RJ7 : String := "java/util/Arrays"
def TJ7 : u_T := fun k => match k with
  | _ => ("", "", "", false)
def tyJ7 : Nat → FieldType := fun k => match k with
  | _ => .int
abbrev wsJ70 : List Cond := u_ws RJ7 TJ7 0
theorem nmJ7 : ∀ a, a < 0 → ∀ b, b < 0 → a ≠ b → (TJ7 a).2.1 ≠ (TJ7 b).2.1 := by decide +kernel
theorem tyJ7_ok : ∀ k, k < 0 → parseFieldDescriptor (TJ7 k).2.2.1 = some (tyJ7 k) := by decide +kernel
abbrev cJ7_fill_53178 : ByteArray := prog_4_method_103_code
def yJ7_fill_53178 : MethodName := ⟨RJ7, "fill", "([II)V"⟩
def RL : String := "LadderGridLaw"
abbrev cL_law : ByteArray := code
def yL_law : MethodName := ⟨RL, "law", "([I)Z"⟩
def wsX0_init : List Cond := .code yX0_init cX0_init 1 none :: ([.methodLink RX0 3 objectInit, .instanceMethod objectInit, .code objectInit ⟨#[0xb1]⟩ 1 none, .arrayClass .int, .fieldLink RX0 9 "LadderGrid" "kinds" "[I", .fieldLink RX0 13 "LadderGrid" "cellVariables" "[I", .fieldLink RX0 16 "LadderGrid" "seen" "[I", .fieldLink RX0 19 "LadderGrid" "links" "[I", .fieldLink RX0 22 "LadderGrid" "powered" "[I", .fieldLink RX0 25 "LadderGrid" "values" "[I", .fieldLink RX0 28 "LadderGrid" "rows" "I", .fieldLink RX0 32 "LadderGrid" "columns" "I", .fieldLink RX0 35 "LadderGrid" "scanned" "Z"] ++ wsX00)
def wsJ7_fill_53178 : List Cond := .code yJ7_fill_53178 cJ7_fill_53178 4 none :: ([])
def wsX0_begin : List Cond := .code yX0_begin cX0_begin 3 (some .int) :: ([.fieldLink RX0 28 "LadderGrid" "rows" "I", .fieldLink RX0 32 "LadderGrid" "columns" "I", .fieldLink RX0 9 "LadderGrid" "kinds" "[I", .fieldLink RX0 13 "LadderGrid" "cellVariables" "[I", .fieldLink RX0 16 "LadderGrid" "seen" "[I", .fieldLink RX0 19 "LadderGrid" "links" "[I", .fieldLink RX0 35 "LadderGrid" "scanned" "Z", .methodLink RX0 39 yJ7_fill_53178, .static yJ7_fill_53178, .initialized RJ7, .code yJ7_fill_53178 cJ7_fill_53178 4 none] ++ wsX00)
def wsX0_isRow : List Cond := .code yX0_isRow cX0_isRow 2 (some .boolean) :: ([.fieldLink RX0 28 "LadderGrid" "rows" "I"] ++ wsX00)
def wsX0_hasVariable : List Cond := .code yX0_hasVariable cX0_hasVariable 1 (some .boolean) :: ([])
def wsX0_isVariable : List Cond := .code yX0_isVariable cX0_isVariable 1 (some .boolean) :: ([])
def wsX0_isCoil : List Cond := .code yX0_isCoil cX0_isCoil 1 (some .boolean) :: ([])
def wsX0_cellAt : List Cond := .code yX0_cellAt cX0_cellAt 2 (some .int) :: ([])
def wsX0_cell : List Cond := .code yX0_cell cX0_cell 7 (some .int) :: ([.fieldLink RX0 32 "LadderGrid" "columns" "I", .fieldLink RX0 9 "LadderGrid" "kinds" "[I", .fieldLink RX0 13 "LadderGrid" "cellVariables" "[I", .fieldLink RX0 16 "LadderGrid" "seen" "[I", .fieldLink RX0 35 "LadderGrid" "scanned" "Z", .methodLink RX0 45 yX0_isRow, .instanceMethod yX0_isRow, .selects RX0 yX0_isRow yX0_isRow, .initialized RX0, .code yX0_isRow cX0_isRow 2 (some .boolean), .fieldLink RX0 28 "LadderGrid" "rows" "I", .methodLink RX0 49 yX0_hasVariable, .static yX0_hasVariable, .code yX0_hasVariable cX0_hasVariable 1 (some .boolean), .methodLink RX0 52 yX0_isVariable, .static yX0_isVariable, .code yX0_isVariable cX0_isVariable 1 (some .boolean), .methodLink RX0 55 yX0_isCoil, .static yX0_isCoil, .code yX0_isCoil cX0_isCoil 1 (some .boolean), .methodLink RX0 58 yX0_cellAt, .static yX0_cellAt, .code yX0_cellAt cX0_cellAt 2 (some .int)] ++ wsX00)
def wsX0_pointAt : List Cond := .code yX0_pointAt cX0_pointAt 2 (some .int) :: ([])
def wsX0_link : List Cond := .code yX0_link cX0_link 6 (some .int) :: ([.fieldLink RX0 28 "LadderGrid" "rows" "I", .fieldLink RX0 32 "LadderGrid" "columns" "I", .fieldLink RX0 19 "LadderGrid" "links" "[I", .fieldLink RX0 35 "LadderGrid" "scanned" "Z", .methodLink RX0 62 yX0_pointAt, .static yX0_pointAt, .initialized RX0, .code yX0_pointAt cX0_pointAt 2 (some .int)] ++ wsX00)
def wsX0_set : List Cond := .code yX0_set cX0_set 4 (some .int) :: ([.fieldLink RX0 25 "LadderGrid" "values" "[I", .methodLink RX0 52 yX0_isVariable, .static yX0_isVariable, .initialized RX0, .code yX0_isVariable cX0_isVariable 1 (some .boolean)] ++ wsX00)
def wsX0_get : List Cond := .code yX0_get cX0_get 2 (some .int) :: ([.fieldLink RX0 25 "LadderGrid" "values" "[I", .methodLink RX0 52 yX0_isVariable, .static yX0_isVariable, .initialized RX0, .code yX0_isVariable cX0_isVariable 1 (some .boolean)] ++ wsX00)
def wsX0_letsThrough : List Cond := .code yX0_letsThrough cX0_letsThrough 3 (some .boolean) :: ([])
def wsX0_passColumn : List Cond := .code yX0_passColumn cX0_passColumn 6 none :: ([.fieldLink RX0 28 "LadderGrid" "rows" "I", .fieldLink RX0 25 "LadderGrid" "values" "[I", .fieldLink RX0 13 "LadderGrid" "cellVariables" "[I", .fieldLink RX0 22 "LadderGrid" "powered" "[I", .fieldLink RX0 9 "LadderGrid" "kinds" "[I", .fieldLink RX0 16 "LadderGrid" "seen" "[I", .methodLink RX0 58 yX0_cellAt, .static yX0_cellAt, .initialized RX0, .code yX0_cellAt cX0_cellAt 2 (some .int), .methodLink RX0 62 yX0_pointAt, .static yX0_pointAt, .code yX0_pointAt cX0_pointAt 2 (some .int), .methodLink RX0 86 yX0_letsThrough, .static yX0_letsThrough, .code yX0_letsThrough cX0_letsThrough 3 (some .boolean)] ++ wsX00)
def wsX0_shareAlongLinks : List Cond := .code yX0_shareAlongLinks cX0_shareAlongLinks 3 none :: ([.fieldLink RX0 28 "LadderGrid" "rows" "I", .fieldLink RX0 19 "LadderGrid" "links" "[I", .fieldLink RX0 22 "LadderGrid" "powered" "[I", .methodLink RX0 62 yX0_pointAt, .static yX0_pointAt, .initialized RX0, .code yX0_pointAt cX0_pointAt 2 (some .int)] ++ wsX00)
def wsX0_coilValue : List Cond := .code yX0_coilValue cX0_coilValue 3 (some .int) :: ([])
def wsX0_driveCoils : List Cond := .code yX0_driveCoils cX0_driveCoils 6 (some .int) :: ([.fieldLink RX0 28 "LadderGrid" "rows" "I", .fieldLink RX0 32 "LadderGrid" "columns" "I", .fieldLink RX0 9 "LadderGrid" "kinds" "[I", .fieldLink RX0 22 "LadderGrid" "powered" "[I", .fieldLink RX0 13 "LadderGrid" "cellVariables" "[I", .fieldLink RX0 25 "LadderGrid" "values" "[I", .methodLink RX0 58 yX0_cellAt, .static yX0_cellAt, .initialized RX0, .code yX0_cellAt cX0_cellAt 2 (some .int), .methodLink RX0 55 yX0_isCoil, .static yX0_isCoil, .code yX0_isCoil cX0_isCoil 1 (some .boolean), .methodLink RX0 62 yX0_pointAt, .static yX0_pointAt, .code yX0_pointAt cX0_pointAt 2 (some .int), .methodLink RX0 90 yX0_coilValue, .static yX0_coilValue, .code yX0_coilValue cX0_coilValue 3 (some .int)] ++ wsX00)
def wsX0_scan_r1 : List Cond := [Cond.fieldLink RX0 28 "LadderGrid" "rows" "I", Cond.fieldLink RX0 22 "LadderGrid" "powered" "[I", Cond.fieldLink RX0 32 "LadderGrid" "columns" "I", Cond.fieldLink RX0 35 "LadderGrid" "scanned" "Z", Cond.methodLink RX0 62 yX0_pointAt, Cond.static yX0_pointAt, Cond.initialized RX0, Cond.code yX0_pointAt cX0_pointAt 2 (some .int), Cond.methodLink RX0 65 yX0_passColumn, Cond.instanceMethod yX0_passColumn, Cond.selects RX0 yX0_passColumn yX0_passColumn, Cond.code yX0_passColumn cX0_passColumn 6 none, Cond.fieldLink RX0 25 "LadderGrid" "values" "[I", Cond.fieldLink RX0 13 "LadderGrid" "cellVariables" "[I", Cond.fieldLink RX0 9 "LadderGrid" "kinds" "[I", Cond.fieldLink RX0 16 "LadderGrid" "seen" "[I", Cond.methodLink RX0 58 yX0_cellAt, Cond.static yX0_cellAt, Cond.code yX0_cellAt cX0_cellAt 2 (some .int), Cond.methodLink RX0 86 yX0_letsThrough, Cond.static yX0_letsThrough, Cond.code yX0_letsThrough cX0_letsThrough 3 (some .boolean), Cond.methodLink RX0 69 yX0_shareAlongLinks, Cond.instanceMethod yX0_shareAlongLinks]
def wsX0_scan_r2 : List Cond := [Cond.selects RX0 yX0_shareAlongLinks yX0_shareAlongLinks, Cond.code yX0_shareAlongLinks cX0_shareAlongLinks 3 none, Cond.fieldLink RX0 19 "LadderGrid" "links" "[I", Cond.methodLink RX0 72 yX0_driveCoils, Cond.instanceMethod yX0_driveCoils, Cond.selects RX0 yX0_driveCoils yX0_driveCoils, Cond.code yX0_driveCoils cX0_driveCoils 6 (some .int), Cond.methodLink RX0 55 yX0_isCoil, Cond.static yX0_isCoil, Cond.code yX0_isCoil cX0_isCoil 1 (some .boolean), Cond.methodLink RX0 90 yX0_coilValue, Cond.static yX0_coilValue, Cond.code yX0_coilValue cX0_coilValue 3 (some .int)]
def wsX0_scan : List Cond := .code yX0_scan cX0_scan 2 (some .int) :: ((wsX0_scan_r1 ++ wsX0_scan_r2) ++ wsX00)
def wsX0_isLine : List Cond := .code yX0_isLine cX0_isLine 2 (some .boolean) :: ([.fieldLink RX0 32 "LadderGrid" "columns" "I"] ++ wsX00)
def wsX0_power : List Cond := .code yX0_power cX0_power 3 (some .int) :: ([.fieldLink RX0 35 "LadderGrid" "scanned" "Z", .fieldLink RX0 32 "LadderGrid" "columns" "I", .fieldLink RX0 9 "LadderGrid" "kinds" "[I", .fieldLink RX0 22 "LadderGrid" "powered" "[I", .methodLink RX0 45 yX0_isRow, .instanceMethod yX0_isRow, .selects RX0 yX0_isRow yX0_isRow, .initialized RX0, .code yX0_isRow cX0_isRow 2 (some .boolean), .fieldLink RX0 28 "LadderGrid" "rows" "I", .methodLink RX0 76 yX0_isLine, .instanceMethod yX0_isLine, .selects RX0 yX0_isLine yX0_isLine, .code yX0_isLine cX0_isLine 2 (some .boolean), .methodLink RX0 58 yX0_cellAt, .static yX0_cellAt, .code yX0_cellAt cX0_cellAt 2 (some .int), .methodLink RX0 55 yX0_isCoil, .static yX0_isCoil, .code yX0_isCoil cX0_isCoil 1 (some .boolean), .methodLink RX0 62 yX0_pointAt, .static yX0_pointAt, .code yX0_pointAt cX0_pointAt 2 (some .int)] ++ wsX00)
def wsX0_joiningSteps : List Cond := .code yX0_joiningSteps cX0_joiningSteps 1 (some .int) :: ([])
def wsX0_lineSteps : List Cond := .code yX0_lineSteps cX0_lineSteps 7 (some .int) :: ([.fieldLink RX0 28 "LadderGrid" "rows" "I", .fieldLink RX0 9 "LadderGrid" "kinds" "[I", .fieldLink RX0 94 "LadderGrid" "KIND_STEPS" "[I", .fieldLink RX0 19 "LadderGrid" "links" "[I", .methodLink RX0 58 yX0_cellAt, .static yX0_cellAt, .initialized RX0, .code yX0_cellAt cX0_cellAt 2 (some .int), .methodLink RX0 55 yX0_isCoil, .static yX0_isCoil, .code yX0_isCoil cX0_isCoil 1 (some .boolean), .methodLink RX0 62 yX0_pointAt, .static yX0_pointAt, .code yX0_pointAt cX0_pointAt 2 (some .int), .methodLink RX0 97 yX0_joiningSteps, .static yX0_joiningSteps, .code yX0_joiningSteps cX0_joiningSteps 1 (some .int)] ++ wsX00)
def wsX0_coilSteps : List Cond := .code yX0_coilSteps cX0_coilSteps 4 (some .int) :: ([.fieldLink RX0 28 "LadderGrid" "rows" "I", .fieldLink RX0 9 "LadderGrid" "kinds" "[I", .fieldLink RX0 32 "LadderGrid" "columns" "I", .fieldLink RX0 94 "LadderGrid" "KIND_STEPS" "[I", .methodLink RX0 58 yX0_cellAt, .static yX0_cellAt, .initialized RX0, .code yX0_cellAt cX0_cellAt 2 (some .int), .methodLink RX0 55 yX0_isCoil, .static yX0_isCoil, .code yX0_isCoil cX0_isCoil 1 (some .boolean)] ++ wsX00)
def wsX0_steps_r1 : List Cond := [Cond.fieldLink RX0 32 "LadderGrid" "columns" "I", Cond.methodLink RX0 79 yX0_lineSteps, Cond.instanceMethod yX0_lineSteps, Cond.selects RX0 yX0_lineSteps yX0_lineSteps, Cond.initialized RX0, Cond.code yX0_lineSteps cX0_lineSteps 7 (some .int), Cond.fieldLink RX0 28 "LadderGrid" "rows" "I", Cond.fieldLink RX0 9 "LadderGrid" "kinds" "[I", Cond.fieldLink RX0 94 "LadderGrid" "KIND_STEPS" "[I", Cond.fieldLink RX0 19 "LadderGrid" "links" "[I", Cond.methodLink RX0 58 yX0_cellAt, Cond.static yX0_cellAt, Cond.code yX0_cellAt cX0_cellAt 2 (some .int), Cond.methodLink RX0 55 yX0_isCoil, Cond.static yX0_isCoil, Cond.code yX0_isCoil cX0_isCoil 1 (some .boolean), Cond.methodLink RX0 62 yX0_pointAt, Cond.static yX0_pointAt, Cond.code yX0_pointAt cX0_pointAt 2 (some .int), Cond.methodLink RX0 97 yX0_joiningSteps, Cond.static yX0_joiningSteps, Cond.code yX0_joiningSteps cX0_joiningSteps 1 (some .int), Cond.methodLink RX0 83 yX0_coilSteps, Cond.instanceMethod yX0_coilSteps]
def wsX0_steps_r2 : List Cond := [Cond.selects RX0 yX0_coilSteps yX0_coilSteps, Cond.code yX0_coilSteps cX0_coilSteps 4 (some .int)]
def wsX0_steps : List Cond := .code yX0_steps cX0_steps 3 (some .int) :: ((wsX0_steps_r1 ++ wsX0_steps_r2) ++ wsX00)
def wsX0_groups : List Cond := .code yX0_groups cX0_groups 4 (some .int) :: ([.fieldLink RX0 28 "LadderGrid" "rows" "I", .fieldLink RX0 19 "LadderGrid" "links" "[I", .methodLink RX0 76 yX0_isLine, .instanceMethod yX0_isLine, .selects RX0 yX0_isLine yX0_isLine, .initialized RX0, .code yX0_isLine cX0_isLine 2 (some .boolean), .fieldLink RX0 32 "LadderGrid" "columns" "I", .methodLink RX0 62 yX0_pointAt, .static yX0_pointAt, .code yX0_pointAt cX0_pointAt 2 (some .int)] ++ wsX00)
def wsX1_begin : List Cond := .code yX1_begin cX1_begin 4 (some .int) :: ([.fieldLink RX1 36 "LadderGridModel" "rows" "I", .fieldLink RX1 40 "LadderGridModel" "columns" "I", .fieldLink RX1 7 "LadderGridModel" "kinds" "[I", .fieldLink RX1 13 "LadderGridModel" "variables" "[I", .fieldLink RX1 16 "LadderGridModel" "before" "[I", .fieldLink RX1 19 "LadderGridModel" "isLinked" "[Z", .fieldLink RX1 43 "LadderGridModel" "isScanned" "Z"] ++ wsX10)
def wsX1_init : List Cond := .code yX1_init cX1_init 1 none :: ([.methodLink RX1 1 objectInit, .instanceMethod objectInit, .code objectInit ⟨#[0xb1]⟩ 1 none, .arrayClass .int, .fieldLink RX1 7 "LadderGridModel" "kinds" "[I", .fieldLink RX1 13 "LadderGridModel" "variables" "[I", .fieldLink RX1 16 "LadderGridModel" "before" "[I", .arrayClass .boolean, .fieldLink RX1 19 "LadderGridModel" "isLinked" "[Z", .fieldLink RX1 23 "LadderGridModel" "values" "[I", .fieldLink RX1 26 "LadderGridModel" "then" "[I", .fieldLink RX1 29 "LadderGridModel" "hasPower" "[Z", .methodLink RX1 32 yX1_begin, .instanceMethod yX1_begin, .selects RX1 yX1_begin yX1_begin, .initialized RX1, .code yX1_begin cX1_begin 4 (some .int), .fieldLink RX1 36 "LadderGridModel" "rows" "I", .fieldLink RX1 40 "LadderGridModel" "columns" "I", .fieldLink RX1 43 "LadderGridModel" "isScanned" "Z"] ++ wsX10)
def wsX1_isCell : List Cond := .code yX1_isCell cX1_isCell 3 (some .boolean) :: ([.fieldLink RX1 36 "LadderGridModel" "rows" "I", .fieldLink RX1 40 "LadderGridModel" "columns" "I"] ++ wsX10)
def wsX1_isVariable : List Cond := .code yX1_isVariable cX1_isVariable 1 (some .boolean) :: ([])
def wsX1_cell : List Cond := .code yX1_cell cX1_cell 7 (some .int) :: ([.fieldLink RX1 40 "LadderGridModel" "columns" "I", .fieldLink RX1 7 "LadderGridModel" "kinds" "[I", .fieldLink RX1 13 "LadderGridModel" "variables" "[I", .fieldLink RX1 16 "LadderGridModel" "before" "[I", .fieldLink RX1 43 "LadderGridModel" "isScanned" "Z", .methodLink RX1 47 yX1_isCell, .instanceMethod yX1_isCell, .selects RX1 yX1_isCell yX1_isCell, .initialized RX1, .code yX1_isCell cX1_isCell 3 (some .boolean), .fieldLink RX1 36 "LadderGridModel" "rows" "I", .methodLink RX1 51 yX1_isVariable, .static yX1_isVariable, .code yX1_isVariable cX1_isVariable 1 (some .boolean)] ++ wsX10)
def wsX1_link : List Cond := .code yX1_link cX1_link 6 (some .int) :: ([.fieldLink RX1 36 "LadderGridModel" "rows" "I", .fieldLink RX1 40 "LadderGridModel" "columns" "I", .fieldLink RX1 19 "LadderGridModel" "isLinked" "[Z", .fieldLink RX1 43 "LadderGridModel" "isScanned" "Z"] ++ wsX10)
def wsX1_set : List Cond := .code yX1_set cX1_set 4 (some .int) :: ([.fieldLink RX1 23 "LadderGridModel" "values" "[I", .methodLink RX1 51 yX1_isVariable, .static yX1_isVariable, .initialized RX1, .code yX1_isVariable cX1_isVariable 1 (some .boolean)] ++ wsX10)
def wsX1_get : List Cond := .code yX1_get cX1_get 2 (some .int) :: ([.fieldLink RX1 23 "LadderGridModel" "values" "[I", .methodLink RX1 51 yX1_isVariable, .static yX1_isVariable, .initialized RX1, .code yX1_isVariable cX1_isVariable 1 (some .boolean)] ++ wsX10)
def wsX1_lets : List Cond := .code yX1_lets cX1_lets 3 (some .boolean) :: ([.fieldLink RX1 26 "LadderGridModel" "then" "[I", .fieldLink RX1 13 "LadderGridModel" "variables" "[I", .fieldLink RX1 7 "LadderGridModel" "kinds" "[I", .fieldLink RX1 16 "LadderGridModel" "before" "[I"] ++ wsX10)
def wsX1_spread : List Cond := .code yX1_spread cX1_spread 3 none :: ([.fieldLink RX1 36 "LadderGridModel" "rows" "I", .fieldLink RX1 19 "LadderGridModel" "isLinked" "[Z", .fieldLink RX1 29 "LadderGridModel" "hasPower" "[Z"] ++ wsX10)
def wsX1_coils : List Cond := .code yX1_coils cX1_coils 7 (some .int) :: ([.fieldLink RX1 36 "LadderGridModel" "rows" "I", .fieldLink RX1 40 "LadderGridModel" "columns" "I", .fieldLink RX1 29 "LadderGridModel" "hasPower" "[Z", .fieldLink RX1 13 "LadderGridModel" "variables" "[I", .fieldLink RX1 7 "LadderGridModel" "kinds" "[I", .fieldLink RX1 23 "LadderGridModel" "values" "[I"] ++ wsX10)
def wsX1_scan : List Cond := .code yX1_scan cX1_scan 4 (some .int) :: ([.fieldLink RX1 26 "LadderGridModel" "then" "[I", .fieldLink RX1 23 "LadderGridModel" "values" "[I", .fieldLink RX1 36 "LadderGridModel" "rows" "I", .fieldLink RX1 29 "LadderGridModel" "hasPower" "[Z", .fieldLink RX1 40 "LadderGridModel" "columns" "I", .fieldLink RX1 16 "LadderGridModel" "before" "[I", .fieldLink RX1 13 "LadderGridModel" "variables" "[I", .fieldLink RX1 43 "LadderGridModel" "isScanned" "Z", .methodLink RX1 55 yX1_lets, .instanceMethod yX1_lets, .selects RX1 yX1_lets yX1_lets, .initialized RX1, .code yX1_lets cX1_lets 3 (some .boolean), .fieldLink RX1 7 "LadderGridModel" "kinds" "[I", .methodLink RX1 58 yX1_spread, .instanceMethod yX1_spread, .selects RX1 yX1_spread yX1_spread, .code yX1_spread cX1_spread 3 none, .fieldLink RX1 19 "LadderGridModel" "isLinked" "[Z", .methodLink RX1 62 yX1_coils, .instanceMethod yX1_coils, .selects RX1 yX1_coils yX1_coils, .code yX1_coils cX1_coils 7 (some .int)] ++ wsX10)
def wsX1_power : List Cond := .code yX1_power cX1_power 3 (some .int) :: ([.fieldLink RX1 36 "LadderGridModel" "rows" "I", .fieldLink RX1 40 "LadderGridModel" "columns" "I", .fieldLink RX1 43 "LadderGridModel" "isScanned" "Z", .fieldLink RX1 7 "LadderGridModel" "kinds" "[I", .fieldLink RX1 29 "LadderGridModel" "hasPower" "[Z"] ++ wsX10)
def wsX1_term : List Cond := .code yX1_term cX1_term 1 (some .int) :: ([])
def wsX1_lineSteps : List Cond := .code yX1_lineSteps cX1_lineSteps 7 (some .int) :: ([.fieldLink RX1 36 "LadderGridModel" "rows" "I", .fieldLink RX1 7 "LadderGridModel" "kinds" "[I", .fieldLink RX1 40 "LadderGridModel" "columns" "I", .fieldLink RX1 19 "LadderGridModel" "isLinked" "[Z", .methodLink RX1 66 yX1_term, .static yX1_term, .initialized RX1, .code yX1_term cX1_term 1 (some .int)] ++ wsX10)
def wsX1_steps : List Cond := .code yX1_steps cX1_steps 4 (some .int) :: ([.fieldLink RX1 40 "LadderGridModel" "columns" "I", .fieldLink RX1 36 "LadderGridModel" "rows" "I", .fieldLink RX1 7 "LadderGridModel" "kinds" "[I", .methodLink RX1 70 yX1_lineSteps, .instanceMethod yX1_lineSteps, .selects RX1 yX1_lineSteps yX1_lineSteps, .initialized RX1, .code yX1_lineSteps cX1_lineSteps 7 (some .int), .fieldLink RX1 19 "LadderGridModel" "isLinked" "[Z", .methodLink RX1 66 yX1_term, .static yX1_term, .code yX1_term cX1_term 1 (some .int)] ++ wsX10)
def wsX1_groups : List Cond := .code yX1_groups cX1_groups 4 (some .int) :: ([.fieldLink RX1 40 "LadderGridModel" "columns" "I", .fieldLink RX1 36 "LadderGridModel" "rows" "I", .fieldLink RX1 19 "LadderGridModel" "isLinked" "[Z"] ++ wsX10)
def wsL_law_r1 : List Cond := [Cond.classLink RL 7 RX0, Cond.instantiable RX0 9, Cond.initialized RX0, Cond.classLink RL 10 RX1, Cond.instantiable RX1 10, Cond.initialized RX1, Cond.methodLink RL 9 yX0_init, Cond.instanceMethod yX0_init, Cond.code yX0_init cX0_init 1 none, Cond.methodLink RX0 3 objectInit, Cond.instanceMethod objectInit, Cond.code objectInit ⟨#[0xb1]⟩ 1 none, Cond.arrayClass .int, Cond.fieldLink RX0 9 "LadderGrid" "kinds" "[I", Cond.fieldLink RX0 13 "LadderGrid" "cellVariables" "[I", Cond.fieldLink RX0 16 "LadderGrid" "seen" "[I", Cond.fieldLink RX0 19 "LadderGrid" "links" "[I", Cond.fieldLink RX0 22 "LadderGrid" "powered" "[I", Cond.fieldLink RX0 25 "LadderGrid" "values" "[I", Cond.fieldLink RX0 28 "LadderGrid" "rows" "I", Cond.fieldLink RX0 32 "LadderGrid" "columns" "I", Cond.fieldLink RX0 35 "LadderGrid" "scanned" "Z", Cond.methodLink RL 12 yX1_init, Cond.instanceMethod yX1_init]
def wsL_law_r2 : List Cond := [Cond.code yX1_init cX1_init 1 none, Cond.methodLink RX1 1 objectInit, Cond.fieldLink RX1 7 "LadderGridModel" "kinds" "[I", Cond.fieldLink RX1 13 "LadderGridModel" "variables" "[I", Cond.fieldLink RX1 16 "LadderGridModel" "before" "[I", Cond.arrayClass .boolean, Cond.fieldLink RX1 19 "LadderGridModel" "isLinked" "[Z", Cond.fieldLink RX1 23 "LadderGridModel" "values" "[I", Cond.fieldLink RX1 26 "LadderGridModel" "then" "[I", Cond.fieldLink RX1 29 "LadderGridModel" "hasPower" "[Z", Cond.methodLink RX1 32 yX1_begin, Cond.instanceMethod yX1_begin, Cond.selects RX1 yX1_begin yX1_begin, Cond.code yX1_begin cX1_begin 4 (some .int), Cond.fieldLink RX1 36 "LadderGridModel" "rows" "I", Cond.fieldLink RX1 40 "LadderGridModel" "columns" "I", Cond.fieldLink RX1 43 "LadderGridModel" "isScanned" "Z", Cond.methodLink RL 13 yX0_begin, Cond.instanceMethod yX0_begin, Cond.selects RX0 yX0_begin yX0_begin, Cond.code yX0_begin cX0_begin 3 (some .int), Cond.methodLink RX0 39 yJ7_fill_53178, Cond.static yJ7_fill_53178, Cond.initialized RJ7]
def wsL_law_r3 : List Cond := [Cond.code yJ7_fill_53178 cJ7_fill_53178 4 none, Cond.methodLink RL 17 yX1_begin, Cond.methodLink RL 18 yX0_cell, Cond.instanceMethod yX0_cell, Cond.selects RX0 yX0_cell yX0_cell, Cond.code yX0_cell cX0_cell 7 (some .int), Cond.methodLink RX0 45 yX0_isRow, Cond.instanceMethod yX0_isRow, Cond.selects RX0 yX0_isRow yX0_isRow, Cond.code yX0_isRow cX0_isRow 2 (some .boolean), Cond.methodLink RX0 49 yX0_hasVariable, Cond.static yX0_hasVariable, Cond.code yX0_hasVariable cX0_hasVariable 1 (some .boolean), Cond.methodLink RX0 52 yX0_isVariable, Cond.static yX0_isVariable, Cond.code yX0_isVariable cX0_isVariable 1 (some .boolean), Cond.methodLink RX0 55 yX0_isCoil, Cond.static yX0_isCoil, Cond.code yX0_isCoil cX0_isCoil 1 (some .boolean), Cond.methodLink RX0 58 yX0_cellAt, Cond.static yX0_cellAt, Cond.code yX0_cellAt cX0_cellAt 2 (some .int), Cond.methodLink RL 22 yX1_cell, Cond.instanceMethod yX1_cell]
def wsL_law_r4 : List Cond := [Cond.selects RX1 yX1_cell yX1_cell, Cond.code yX1_cell cX1_cell 7 (some .int), Cond.methodLink RX1 47 yX1_isCell, Cond.instanceMethod yX1_isCell, Cond.selects RX1 yX1_isCell yX1_isCell, Cond.code yX1_isCell cX1_isCell 3 (some .boolean), Cond.methodLink RX1 51 yX1_isVariable, Cond.static yX1_isVariable, Cond.code yX1_isVariable cX1_isVariable 1 (some .boolean), Cond.methodLink RL 23 yX0_link, Cond.instanceMethod yX0_link, Cond.selects RX0 yX0_link yX0_link, Cond.code yX0_link cX0_link 6 (some .int), Cond.methodLink RX0 62 yX0_pointAt, Cond.static yX0_pointAt, Cond.code yX0_pointAt cX0_pointAt 2 (some .int), Cond.methodLink RL 27 yX1_link, Cond.instanceMethod yX1_link, Cond.selects RX1 yX1_link yX1_link, Cond.code yX1_link cX1_link 6 (some .int), Cond.methodLink RL 28 yX0_set, Cond.instanceMethod yX0_set, Cond.selects RX0 yX0_set yX0_set, Cond.code yX0_set cX0_set 4 (some .int)]
def wsL_law_r5 : List Cond := [Cond.methodLink RL 31 yX1_set, Cond.instanceMethod yX1_set, Cond.selects RX1 yX1_set yX1_set, Cond.code yX1_set cX1_set 4 (some .int), Cond.methodLink RL 32 yX0_get, Cond.instanceMethod yX0_get, Cond.selects RX0 yX0_get yX0_get, Cond.code yX0_get cX0_get 2 (some .int), Cond.methodLink RL 36 yX1_get, Cond.instanceMethod yX1_get, Cond.selects RX1 yX1_get yX1_get, Cond.code yX1_get cX1_get 2 (some .int), Cond.methodLink RL 37 yX0_scan, Cond.instanceMethod yX0_scan, Cond.selects RX0 yX0_scan yX0_scan, Cond.code yX0_scan cX0_scan 2 (some .int), Cond.methodLink RX0 65 yX0_passColumn, Cond.instanceMethod yX0_passColumn, Cond.selects RX0 yX0_passColumn yX0_passColumn, Cond.code yX0_passColumn cX0_passColumn 6 none, Cond.methodLink RX0 86 yX0_letsThrough, Cond.static yX0_letsThrough, Cond.code yX0_letsThrough cX0_letsThrough 3 (some .boolean), Cond.methodLink RX0 69 yX0_shareAlongLinks]
def wsL_law_r6 : List Cond := [Cond.instanceMethod yX0_shareAlongLinks, Cond.selects RX0 yX0_shareAlongLinks yX0_shareAlongLinks, Cond.code yX0_shareAlongLinks cX0_shareAlongLinks 3 none, Cond.methodLink RX0 72 yX0_driveCoils, Cond.instanceMethod yX0_driveCoils, Cond.selects RX0 yX0_driveCoils yX0_driveCoils, Cond.code yX0_driveCoils cX0_driveCoils 6 (some .int), Cond.methodLink RX0 90 yX0_coilValue, Cond.static yX0_coilValue, Cond.code yX0_coilValue cX0_coilValue 3 (some .int), Cond.methodLink RL 41 yX1_scan, Cond.instanceMethod yX1_scan, Cond.selects RX1 yX1_scan yX1_scan, Cond.code yX1_scan cX1_scan 4 (some .int), Cond.methodLink RX1 55 yX1_lets, Cond.instanceMethod yX1_lets, Cond.selects RX1 yX1_lets yX1_lets, Cond.code yX1_lets cX1_lets 3 (some .boolean), Cond.methodLink RX1 58 yX1_spread, Cond.instanceMethod yX1_spread, Cond.selects RX1 yX1_spread yX1_spread, Cond.code yX1_spread cX1_spread 3 none, Cond.methodLink RX1 62 yX1_coils, Cond.instanceMethod yX1_coils]
def wsL_law_r7 : List Cond := [Cond.selects RX1 yX1_coils yX1_coils, Cond.code yX1_coils cX1_coils 7 (some .int), Cond.methodLink RL 42 yX0_power, Cond.instanceMethod yX0_power, Cond.selects RX0 yX0_power yX0_power, Cond.code yX0_power cX0_power 3 (some .int), Cond.methodLink RX0 76 yX0_isLine, Cond.instanceMethod yX0_isLine, Cond.selects RX0 yX0_isLine yX0_isLine, Cond.code yX0_isLine cX0_isLine 2 (some .boolean), Cond.methodLink RL 45 yX1_power, Cond.instanceMethod yX1_power, Cond.selects RX1 yX1_power yX1_power, Cond.code yX1_power cX1_power 3 (some .int), Cond.methodLink RL 46 yX0_steps, Cond.instanceMethod yX0_steps, Cond.selects RX0 yX0_steps yX0_steps, Cond.code yX0_steps cX0_steps 3 (some .int), Cond.methodLink RX0 79 yX0_lineSteps, Cond.instanceMethod yX0_lineSteps, Cond.selects RX0 yX0_lineSteps yX0_lineSteps, Cond.code yX0_lineSteps cX0_lineSteps 7 (some .int), Cond.fieldLink RX0 94 "LadderGrid" "KIND_STEPS" "[I", Cond.methodLink RX0 97 yX0_joiningSteps]
def wsL_law_r8 : List Cond := [Cond.static yX0_joiningSteps, Cond.code yX0_joiningSteps cX0_joiningSteps 1 (some .int), Cond.methodLink RX0 83 yX0_coilSteps, Cond.instanceMethod yX0_coilSteps, Cond.selects RX0 yX0_coilSteps yX0_coilSteps, Cond.code yX0_coilSteps cX0_coilSteps 4 (some .int), Cond.methodLink RL 49 yX1_steps, Cond.instanceMethod yX1_steps, Cond.selects RX1 yX1_steps yX1_steps, Cond.code yX1_steps cX1_steps 4 (some .int), Cond.methodLink RX1 70 yX1_lineSteps, Cond.instanceMethod yX1_lineSteps, Cond.selects RX1 yX1_lineSteps yX1_lineSteps, Cond.code yX1_lineSteps cX1_lineSteps 7 (some .int), Cond.methodLink RX1 66 yX1_term, Cond.static yX1_term, Cond.code yX1_term cX1_term 1 (some .int), Cond.methodLink RL 50 yX0_groups, Cond.instanceMethod yX0_groups, Cond.selects RX0 yX0_groups yX0_groups, Cond.code yX0_groups cX0_groups 4 (some .int), Cond.methodLink RL 53 yX1_groups, Cond.instanceMethod yX1_groups, Cond.selects RX1 yX1_groups yX1_groups]
def wsL_law_r9 : List Cond := [Cond.code yX1_groups cX1_groups 4 (some .int)]
def wsL_law : List Cond := (wsL_law_r1 ++ (wsL_law_r2 ++ (wsL_law_r3 ++ (wsL_law_r4 ++ (wsL_law_r5 ++ (wsL_law_r6 ++ (wsL_law_r7 ++ (wsL_law_r8 ++ wsL_law_r9)))))))) ++ wsX00 ++ wsX10 ++ ([] : List Cond)
set_option maxRecDepth 20000 in
theorem wsL_law_in : ∀ w ∈ wsL_law, w ∈ lw_tbl := fun w h => (goodIn_p wsL_law [20, 23, 150, 155, 56, 59, 63, 67, 70, 73, 76, 79, 192, 196, 199, 83, 86, 203, 90, 207, 94, 211, 98, 102, 105, 109, 113, 116, 215, 219, 223, 227, 120, 124, 231, 128, 132, 137, 141, 235, 239, 242, 145, 246] (by decide +kernel) (by decide +kernel) w h).1
theorem inlX0 : ∀ w ∈ wsX00, w ∈ wsL_law := fun _ h => List.mem_append_left _ (List.mem_append_left _ (List.mem_append_right _ h))
theorem inX0 : ∀ w ∈ wsX00, w ∈ lw_tbl := fun w h => wsL_law_in w (inlX0 w h)
theorem inlX1 : ∀ w ∈ wsX10, w ∈ wsL_law := fun _ h => List.mem_append_left _ (List.mem_append_right _ h)
theorem inX1 : ∀ w ∈ wsX10, w ∈ lw_tbl := fun w h => wsL_law_in w (inlX1 w h)
theorem inJ7 : ∀ w ∈ wsJ70, w ∈ lw_tbl := by decide +kernel
theorem dX0_init_0 : decode cX0_init 0 = .ok (.aload_n 0, 1) := by decide +kernel
theorem dX0_init_1 : decode cX0_init 1 = .ok (.invokespecial 3, 3) := by decide +kernel
theorem dX0_init_4 : decode cX0_init 4 = .ok (.aload_n 0, 1) := by decide +kernel
theorem dX0_init_5 : decode cX0_init 5 = .ok (.sipush 144, 3) := by decide +kernel
theorem dX0_init_8 : decode cX0_init 8 = .ok (.newarray .int, 2) := by decide +kernel
theorem dX0_init_10 : decode cX0_init 10 = .ok (.putfield 9, 3) := by decide +kernel
theorem dX0_init_13 : decode cX0_init 13 = .ok (.aload_n 0, 1) := by decide +kernel
theorem dX0_init_14 : decode cX0_init 14 = .ok (.sipush 144, 3) := by decide +kernel
theorem dX0_init_17 : decode cX0_init 17 = .ok (.newarray .int, 2) := by decide +kernel
theorem dX0_init_19 : decode cX0_init 19 = .ok (.putfield 13, 3) := by decide +kernel
theorem dX0_init_22 : decode cX0_init 22 = .ok (.aload_n 0, 1) := by decide +kernel
theorem dX0_init_23 : decode cX0_init 23 = .ok (.sipush 144, 3) := by decide +kernel
theorem dX0_init_26 : decode cX0_init 26 = .ok (.newarray .int, 2) := by decide +kernel
theorem dX0_init_28 : decode cX0_init 28 = .ok (.putfield 16, 3) := by decide +kernel
theorem dX0_init_31 : decode cX0_init 31 = .ok (.aload_n 0, 1) := by decide +kernel
theorem dX0_init_32 : decode cX0_init 32 = .ok (.sipush 156, 3) := by decide +kernel
theorem dX0_init_35 : decode cX0_init 35 = .ok (.newarray .int, 2) := by decide +kernel
theorem dX0_init_37 : decode cX0_init 37 = .ok (.putfield 19, 3) := by decide +kernel
theorem dX0_init_40 : decode cX0_init 40 = .ok (.aload_n 0, 1) := by decide +kernel
theorem dX0_init_41 : decode cX0_init 41 = .ok (.sipush 156, 3) := by decide +kernel
theorem dX0_init_44 : decode cX0_init 44 = .ok (.newarray .int, 2) := by decide +kernel
theorem dX0_init_46 : decode cX0_init 46 = .ok (.putfield 22, 3) := by decide +kernel
theorem dX0_init_49 : decode cX0_init 49 = .ok (.aload_n 0, 1) := by decide +kernel
theorem dX0_init_50 : decode cX0_init 50 = .ok (.bipush 40, 2) := by decide +kernel
theorem dX0_init_52 : decode cX0_init 52 = .ok (.newarray .int, 2) := by decide +kernel
theorem dX0_init_54 : decode cX0_init 54 = .ok (.putfield 25, 3) := by decide +kernel
theorem dX0_init_57 : decode cX0_init 57 = .ok (.aload_n 0, 1) := by decide +kernel
theorem dX0_init_58 : decode cX0_init 58 = .ok (.iconst 1, 1) := by decide +kernel
theorem dX0_init_59 : decode cX0_init 59 = .ok (.putfield 28, 3) := by decide +kernel
theorem dX0_init_62 : decode cX0_init 62 = .ok (.aload_n 0, 1) := by decide +kernel
theorem dX0_init_63 : decode cX0_init 63 = .ok (.iconst 1, 1) := by decide +kernel
theorem dX0_init_64 : decode cX0_init 64 = .ok (.putfield 32, 3) := by decide +kernel
theorem dX0_init_67 : decode cX0_init 67 = .ok (.aload_n 0, 1) := by decide +kernel
theorem dX0_init_68 : decode cX0_init 68 = .ok (.iconst 0, 1) := by decide +kernel
theorem dX0_init_69 : decode cX0_init 69 = .ok (.putfield 35, 3) := by decide +kernel
theorem dX0_init_72 : decode cX0_init 72 = .ok (.return_, 1) := by decide +kernel
set_option maxRecDepth 20000 in
theorem ggX0_begin_J7_fill_53178 : GoodIn wsX0_begin wsJ7_fill_53178 := goodIn_r _ [11] (by decide +kernel) (by decide +kernel)
set_option maxRecDepth 20000 in
theorem gX0_begin_J7_fill_53178 : GoodIn wsX0_begin (va_wsS RX0 39 yJ7_fill_53178 wsJ7_fill_53178) := goodIn_app (goodIn_of _ (by decide +kernel)) ggX0_begin_J7_fill_53178
theorem dX0_begin_0 : decode cX0_begin 0 = .ok (.iload_n 1, 1) := by decide +kernel
theorem dX0_begin_1 : decode cX0_begin 1 = .ok (.iconst 1, 1) := by decide +kernel
theorem dX0_begin_2 : decode cX0_begin 2 = .ok (.if_icmp .lt 20, 3) := by decide +kernel
theorem dX0_begin_5 : decode cX0_begin 5 = .ok (.iload_n 1, 1) := by decide +kernel
theorem dX0_begin_6 : decode cX0_begin 6 = .ok (.bipush 12, 2) := by decide +kernel
theorem dX0_begin_8 : decode cX0_begin 8 = .ok (.if_icmp .gt 14, 3) := by decide +kernel
theorem dX0_begin_11 : decode cX0_begin 11 = .ok (.iload_n 2, 1) := by decide +kernel
theorem dX0_begin_12 : decode cX0_begin 12 = .ok (.iconst 1, 1) := by decide +kernel
theorem dX0_begin_13 : decode cX0_begin 13 = .ok (.if_icmp .lt 9, 3) := by decide +kernel
theorem dX0_begin_16 : decode cX0_begin 16 = .ok (.iload_n 2, 1) := by decide +kernel
theorem dX0_begin_17 : decode cX0_begin 17 = .ok (.bipush 12, 2) := by decide +kernel
theorem dX0_begin_19 : decode cX0_begin 19 = .ok (.if_icmp .le 5, 3) := by decide +kernel
theorem dX0_begin_22 : decode cX0_begin 22 = .ok (.iconst (-1), 1) := by decide +kernel
theorem dX0_begin_23 : decode cX0_begin 23 = .ok (.ireturn, 1) := by decide +kernel
theorem dX0_begin_24 : decode cX0_begin 24 = .ok (.aload_n 0, 1) := by decide +kernel
theorem dX0_begin_25 : decode cX0_begin 25 = .ok (.iload_n 1, 1) := by decide +kernel
theorem dX0_begin_26 : decode cX0_begin 26 = .ok (.putfield 28, 3) := by decide +kernel
theorem dX0_begin_29 : decode cX0_begin 29 = .ok (.aload_n 0, 1) := by decide +kernel
theorem dX0_begin_30 : decode cX0_begin 30 = .ok (.iload_n 2, 1) := by decide +kernel
theorem dX0_begin_31 : decode cX0_begin 31 = .ok (.putfield 32, 3) := by decide +kernel
theorem dX0_begin_34 : decode cX0_begin 34 = .ok (.aload_n 0, 1) := by decide +kernel
theorem dX0_begin_35 : decode cX0_begin 35 = .ok (.getfield 9, 3) := by decide +kernel
theorem dX0_begin_38 : decode cX0_begin 38 = .ok (.iconst 0, 1) := by decide +kernel
theorem dX0_begin_39 : decode cX0_begin 39 = .ok (.invokestatic 39, 3) := by decide +kernel
theorem dX0_begin_42 : decode cX0_begin 42 = .ok (.aload_n 0, 1) := by decide +kernel
theorem dX0_begin_43 : decode cX0_begin 43 = .ok (.getfield 13, 3) := by decide +kernel
theorem dX0_begin_46 : decode cX0_begin 46 = .ok (.iconst 0, 1) := by decide +kernel
theorem dX0_begin_47 : decode cX0_begin 47 = .ok (.invokestatic 39, 3) := by decide +kernel
theorem dX0_begin_50 : decode cX0_begin 50 = .ok (.aload_n 0, 1) := by decide +kernel
theorem dX0_begin_51 : decode cX0_begin 51 = .ok (.getfield 16, 3) := by decide +kernel
theorem dX0_begin_54 : decode cX0_begin 54 = .ok (.iconst 0, 1) := by decide +kernel
theorem dX0_begin_55 : decode cX0_begin 55 = .ok (.invokestatic 39, 3) := by decide +kernel
theorem dX0_begin_58 : decode cX0_begin 58 = .ok (.aload_n 0, 1) := by decide +kernel
theorem dX0_begin_59 : decode cX0_begin 59 = .ok (.getfield 19, 3) := by decide +kernel
theorem dX0_begin_62 : decode cX0_begin 62 = .ok (.iconst 0, 1) := by decide +kernel
theorem dX0_begin_63 : decode cX0_begin 63 = .ok (.invokestatic 39, 3) := by decide +kernel
theorem dX0_begin_66 : decode cX0_begin 66 = .ok (.aload_n 0, 1) := by decide +kernel
theorem dX0_begin_67 : decode cX0_begin 67 = .ok (.iconst 0, 1) := by decide +kernel
theorem dX0_begin_68 : decode cX0_begin 68 = .ok (.putfield 35, 3) := by decide +kernel
theorem dX0_begin_71 : decode cX0_begin 71 = .ok (.iconst 0, 1) := by decide +kernel
theorem dX0_begin_72 : decode cX0_begin 72 = .ok (.ireturn, 1) := by decide +kernel
set_option maxRecDepth 20000 in
theorem ggX0_cell_X0_isRow : GoodIn wsX0_cell wsX0_isRow := goodIn_r _ [10, 11, 24, 25, 26, 27, 28, 29, 30, 31, 32] (by decide +kernel) (by decide +kernel)
set_option maxRecDepth 20000 in
theorem gX0_cell_X0_isRow : GoodIn wsX0_cell (wsV RX0 45 RX0 yX0_isRow wsX0_isRow) := goodIn_app (goodIn_of _ (by decide +kernel)) ggX0_cell_X0_isRow
set_option maxRecDepth 20000 in
theorem ggX0_cell_X0_hasVariable : GoodIn wsX0_cell wsX0_hasVariable := goodIn_r _ [14] (by decide +kernel) (by decide +kernel)
set_option maxRecDepth 20000 in
theorem gX0_cell_X0_hasVariable : GoodIn wsX0_cell (va_wsS RX0 49 yX0_hasVariable wsX0_hasVariable) := goodIn_app (goodIn_of _ (by decide +kernel)) ggX0_cell_X0_hasVariable
set_option maxRecDepth 20000 in
theorem ggX0_cell_X0_isVariable : GoodIn wsX0_cell wsX0_isVariable := goodIn_r _ [17] (by decide +kernel) (by decide +kernel)
set_option maxRecDepth 20000 in
theorem gX0_cell_X0_isVariable : GoodIn wsX0_cell (va_wsS RX0 52 yX0_isVariable wsX0_isVariable) := goodIn_app (goodIn_of _ (by decide +kernel)) ggX0_cell_X0_isVariable
set_option maxRecDepth 20000 in
theorem ggX0_cell_X0_isCoil : GoodIn wsX0_cell wsX0_isCoil := goodIn_r _ [20] (by decide +kernel) (by decide +kernel)
set_option maxRecDepth 20000 in
theorem gX0_cell_X0_isCoil : GoodIn wsX0_cell (va_wsS RX0 55 yX0_isCoil wsX0_isCoil) := goodIn_app (goodIn_of _ (by decide +kernel)) ggX0_cell_X0_isCoil
set_option maxRecDepth 20000 in
theorem ggX0_cell_X0_cellAt : GoodIn wsX0_cell wsX0_cellAt := goodIn_r _ [23] (by decide +kernel) (by decide +kernel)
set_option maxRecDepth 20000 in
theorem gX0_cell_X0_cellAt : GoodIn wsX0_cell (va_wsS RX0 58 yX0_cellAt wsX0_cellAt) := goodIn_app (goodIn_of _ (by decide +kernel)) ggX0_cell_X0_cellAt
theorem dX0_cell_0 : decode cX0_cell 0 = .ok (.aload_n 0, 1) := by decide +kernel
theorem dX0_cell_1 : decode cX0_cell 1 = .ok (.iload_n 1, 1) := by decide +kernel
theorem dX0_cell_2 : decode cX0_cell 2 = .ok (.invokevirtual 45, 3) := by decide +kernel
theorem dX0_cell_5 : decode cX0_cell 5 = .ok (.ifCond .eq 25, 3) := by decide +kernel
theorem dX0_cell_8 : decode cX0_cell 8 = .ok (.iload_n 2, 1) := by decide +kernel
theorem dX0_cell_9 : decode cX0_cell 9 = .ok (.ifCond .lt 21, 3) := by decide +kernel
theorem dX0_cell_12 : decode cX0_cell 12 = .ok (.iload_n 2, 1) := by decide +kernel
theorem dX0_cell_13 : decode cX0_cell 13 = .ok (.aload_n 0, 1) := by decide +kernel
theorem dX0_cell_14 : decode cX0_cell 14 = .ok (.getfield 32, 3) := by decide +kernel
theorem dX0_cell_17 : decode cX0_cell 17 = .ok (.if_icmp .ge 13, 3) := by decide +kernel
theorem dX0_cell_20 : decode cX0_cell 20 = .ok (.iload_n 3, 1) := by decide +kernel
theorem dX0_cell_21 : decode cX0_cell 21 = .ok (.ifCond .lt 9, 3) := by decide +kernel
theorem dX0_cell_24 : decode cX0_cell 24 = .ok (.iload_n 3, 1) := by decide +kernel
theorem dX0_cell_25 : decode cX0_cell 25 = .ok (.bipush 9, 2) := by decide +kernel
theorem dX0_cell_27 : decode cX0_cell 27 = .ok (.if_icmp .le 5, 3) := by decide +kernel
theorem dX0_cell_30 : decode cX0_cell 30 = .ok (.iconst (-1), 1) := by decide +kernel
theorem dX0_cell_31 : decode cX0_cell 31 = .ok (.ireturn, 1) := by decide +kernel
theorem dX0_cell_32 : decode cX0_cell 32 = .ok (.iload_n 3, 1) := by decide +kernel
theorem dX0_cell_33 : decode cX0_cell 33 = .ok (.invokestatic 49, 3) := by decide +kernel
theorem dX0_cell_36 : decode cX0_cell 36 = .ok (.ifCond .eq 13, 3) := by decide +kernel
theorem dX0_cell_39 : decode cX0_cell 39 = .ok (.iload 4, 2) := by decide +kernel
theorem dX0_cell_41 : decode cX0_cell 41 = .ok (.invokestatic 52, 3) := by decide +kernel
theorem dX0_cell_44 : decode cX0_cell 44 = .ok (.ifCond .ne 5, 3) := by decide +kernel
theorem dX0_cell_47 : decode cX0_cell 47 = .ok (.iconst (-1), 1) := by decide +kernel
theorem dX0_cell_48 : decode cX0_cell 48 = .ok (.ireturn, 1) := by decide +kernel
theorem dX0_cell_49 : decode cX0_cell 49 = .ok (.iload_n 3, 1) := by decide +kernel
theorem dX0_cell_50 : decode cX0_cell 50 = .ok (.invokestatic 55, 3) := by decide +kernel
theorem dX0_cell_53 : decode cX0_cell 53 = .ok (.ifCond .eq 15, 3) := by decide +kernel
theorem dX0_cell_56 : decode cX0_cell 56 = .ok (.iload_n 2, 1) := by decide +kernel
theorem dX0_cell_57 : decode cX0_cell 57 = .ok (.aload_n 0, 1) := by decide +kernel
theorem dX0_cell_58 : decode cX0_cell 58 = .ok (.getfield 32, 3) := by decide +kernel
theorem dX0_cell_61 : decode cX0_cell 61 = .ok (.iconst 1, 1) := by decide +kernel
theorem dX0_cell_62 : decode cX0_cell 62 = .ok (.isub, 1) := by decide +kernel
theorem dX0_cell_63 : decode cX0_cell 63 = .ok (.if_icmp .eq 5, 3) := by decide +kernel
theorem dX0_cell_66 : decode cX0_cell 66 = .ok (.iconst (-1), 1) := by decide +kernel
theorem dX0_cell_67 : decode cX0_cell 67 = .ok (.ireturn, 1) := by decide +kernel
theorem dX0_cell_68 : decode cX0_cell 68 = .ok (.iload_n 1, 1) := by decide +kernel
theorem dX0_cell_69 : decode cX0_cell 69 = .ok (.iload_n 2, 1) := by decide +kernel
theorem dX0_cell_70 : decode cX0_cell 70 = .ok (.invokestatic 58, 3) := by decide +kernel
theorem dX0_cell_73 : decode cX0_cell 73 = .ok (.istore 5, 2) := by decide +kernel
theorem dX0_cell_75 : decode cX0_cell 75 = .ok (.aload_n 0, 1) := by decide +kernel
theorem dX0_cell_76 : decode cX0_cell 76 = .ok (.getfield 9, 3) := by decide +kernel
theorem dX0_cell_79 : decode cX0_cell 79 = .ok (.iload 5, 2) := by decide +kernel
theorem dX0_cell_81 : decode cX0_cell 81 = .ok (.iaload, 1) := by decide +kernel
theorem dX0_cell_82 : decode cX0_cell 82 = .ok (.istore 6, 2) := by decide +kernel
theorem dX0_cell_84 : decode cX0_cell 84 = .ok (.aload_n 0, 1) := by decide +kernel
theorem dX0_cell_85 : decode cX0_cell 85 = .ok (.getfield 9, 3) := by decide +kernel
theorem dX0_cell_88 : decode cX0_cell 88 = .ok (.iload 5, 2) := by decide +kernel
theorem dX0_cell_90 : decode cX0_cell 90 = .ok (.iload_n 3, 1) := by decide +kernel
theorem dX0_cell_91 : decode cX0_cell 91 = .ok (.iastore, 1) := by decide +kernel
theorem dX0_cell_92 : decode cX0_cell 92 = .ok (.aload_n 0, 1) := by decide +kernel
theorem dX0_cell_93 : decode cX0_cell 93 = .ok (.getfield 13, 3) := by decide +kernel
theorem dX0_cell_96 : decode cX0_cell 96 = .ok (.iload 5, 2) := by decide +kernel
theorem dX0_cell_98 : decode cX0_cell 98 = .ok (.iload_n 3, 1) := by decide +kernel
theorem dX0_cell_99 : decode cX0_cell 99 = .ok (.invokestatic 49, 3) := by decide +kernel
theorem dX0_cell_102 : decode cX0_cell 102 = .ok (.ifCond .eq 8, 3) := by decide +kernel
theorem dX0_cell_105 : decode cX0_cell 105 = .ok (.iload 4, 2) := by decide +kernel
theorem dX0_cell_107 : decode cX0_cell 107 = .ok (.goto 4, 3) := by decide +kernel
theorem dX0_cell_110 : decode cX0_cell 110 = .ok (.iconst 0, 1) := by decide +kernel
theorem dX0_cell_111 : decode cX0_cell 111 = .ok (.iastore, 1) := by decide +kernel
theorem dX0_cell_112 : decode cX0_cell 112 = .ok (.aload_n 0, 1) := by decide +kernel
theorem dX0_cell_113 : decode cX0_cell 113 = .ok (.getfield 16, 3) := by decide +kernel
theorem dX0_cell_116 : decode cX0_cell 116 = .ok (.iload 5, 2) := by decide +kernel
theorem dX0_cell_118 : decode cX0_cell 118 = .ok (.iconst 0, 1) := by decide +kernel
theorem dX0_cell_119 : decode cX0_cell 119 = .ok (.iastore, 1) := by decide +kernel
theorem dX0_cell_120 : decode cX0_cell 120 = .ok (.aload_n 0, 1) := by decide +kernel
theorem dX0_cell_121 : decode cX0_cell 121 = .ok (.iconst 0, 1) := by decide +kernel
theorem dX0_cell_122 : decode cX0_cell 122 = .ok (.putfield 35, 3) := by decide +kernel
theorem dX0_cell_125 : decode cX0_cell 125 = .ok (.iload 6, 2) := by decide +kernel
theorem dX0_cell_127 : decode cX0_cell 127 = .ok (.ireturn, 1) := by decide +kernel
set_option maxRecDepth 20000 in
theorem ggX0_link_X0_pointAt : GoodIn wsX0_link wsX0_pointAt := goodIn_r _ [8] (by decide +kernel) (by decide +kernel)
set_option maxRecDepth 20000 in
theorem gX0_link_X0_pointAt : GoodIn wsX0_link (va_wsS RX0 62 yX0_pointAt wsX0_pointAt) := goodIn_app (goodIn_of _ (by decide +kernel)) ggX0_link_X0_pointAt
theorem dX0_link_0 : decode cX0_link 0 = .ok (.iload_n 1, 1) := by decide +kernel
theorem dX0_link_1 : decode cX0_link 1 = .ok (.ifCond .lt 26, 3) := by decide +kernel
theorem dX0_link_4 : decode cX0_link 4 = .ok (.iload_n 1, 1) := by decide +kernel
theorem dX0_link_5 : decode cX0_link 5 = .ok (.aload_n 0, 1) := by decide +kernel
theorem dX0_link_6 : decode cX0_link 6 = .ok (.getfield 28, 3) := by decide +kernel
theorem dX0_link_9 : decode cX0_link 9 = .ok (.iconst 1, 1) := by decide +kernel
theorem dX0_link_10 : decode cX0_link 10 = .ok (.isub, 1) := by decide +kernel
theorem dX0_link_11 : decode cX0_link 11 = .ok (.if_icmp .ge 16, 3) := by decide +kernel
theorem dX0_link_14 : decode cX0_link 14 = .ok (.iload_n 2, 1) := by decide +kernel
theorem dX0_link_15 : decode cX0_link 15 = .ok (.iconst 1, 1) := by decide +kernel
theorem dX0_link_16 : decode cX0_link 16 = .ok (.if_icmp .lt 11, 3) := by decide +kernel
theorem dX0_link_19 : decode cX0_link 19 = .ok (.iload_n 2, 1) := by decide +kernel
theorem dX0_link_20 : decode cX0_link 20 = .ok (.aload_n 0, 1) := by decide +kernel
theorem dX0_link_21 : decode cX0_link 21 = .ok (.getfield 32, 3) := by decide +kernel
theorem dX0_link_24 : decode cX0_link 24 = .ok (.if_icmp .lt 5, 3) := by decide +kernel
theorem dX0_link_27 : decode cX0_link 27 = .ok (.iconst (-1), 1) := by decide +kernel
theorem dX0_link_28 : decode cX0_link 28 = .ok (.ireturn, 1) := by decide +kernel
theorem dX0_link_29 : decode cX0_link 29 = .ok (.iload_n 1, 1) := by decide +kernel
theorem dX0_link_30 : decode cX0_link 30 = .ok (.iload_n 2, 1) := by decide +kernel
theorem dX0_link_31 : decode cX0_link 31 = .ok (.invokestatic 62, 3) := by decide +kernel
theorem dX0_link_34 : decode cX0_link 34 = .ok (.istore 4, 2) := by decide +kernel
theorem dX0_link_36 : decode cX0_link 36 = .ok (.aload_n 0, 1) := by decide +kernel
theorem dX0_link_37 : decode cX0_link 37 = .ok (.getfield 19, 3) := by decide +kernel
theorem dX0_link_40 : decode cX0_link 40 = .ok (.iload 4, 2) := by decide +kernel
theorem dX0_link_42 : decode cX0_link 42 = .ok (.iaload, 1) := by decide +kernel
theorem dX0_link_43 : decode cX0_link 43 = .ok (.istore 5, 2) := by decide +kernel
theorem dX0_link_45 : decode cX0_link 45 = .ok (.aload_n 0, 1) := by decide +kernel
theorem dX0_link_46 : decode cX0_link 46 = .ok (.getfield 19, 3) := by decide +kernel
theorem dX0_link_49 : decode cX0_link 49 = .ok (.iload 4, 2) := by decide +kernel
theorem dX0_link_51 : decode cX0_link 51 = .ok (.iload_n 3, 1) := by decide +kernel
theorem dX0_link_52 : decode cX0_link 52 = .ok (.ifCond .eq 7, 3) := by decide +kernel
theorem dX0_link_55 : decode cX0_link 55 = .ok (.iconst 1, 1) := by decide +kernel
theorem dX0_link_56 : decode cX0_link 56 = .ok (.goto 4, 3) := by decide +kernel
theorem dX0_link_59 : decode cX0_link 59 = .ok (.iconst 0, 1) := by decide +kernel
theorem dX0_link_60 : decode cX0_link 60 = .ok (.iastore, 1) := by decide +kernel
theorem dX0_link_61 : decode cX0_link 61 = .ok (.aload_n 0, 1) := by decide +kernel
theorem dX0_link_62 : decode cX0_link 62 = .ok (.iconst 0, 1) := by decide +kernel
theorem dX0_link_63 : decode cX0_link 63 = .ok (.putfield 35, 3) := by decide +kernel
theorem dX0_link_66 : decode cX0_link 66 = .ok (.iload 5, 2) := by decide +kernel
theorem dX0_link_68 : decode cX0_link 68 = .ok (.ireturn, 1) := by decide +kernel
set_option maxRecDepth 20000 in
theorem ggX0_set_X0_isVariable : GoodIn wsX0_set wsX0_isVariable := goodIn_r _ [5] (by decide +kernel) (by decide +kernel)
set_option maxRecDepth 20000 in
theorem gX0_set_X0_isVariable : GoodIn wsX0_set (va_wsS RX0 52 yX0_isVariable wsX0_isVariable) := goodIn_app (goodIn_of _ (by decide +kernel)) ggX0_set_X0_isVariable
theorem dX0_set_0 : decode cX0_set 0 = .ok (.iload_n 1, 1) := by decide +kernel
theorem dX0_set_1 : decode cX0_set 1 = .ok (.invokestatic 52, 3) := by decide +kernel
theorem dX0_set_4 : decode cX0_set 4 = .ok (.ifCond .eq 12, 3) := by decide +kernel
theorem dX0_set_7 : decode cX0_set 7 = .ok (.iload_n 2, 1) := by decide +kernel
theorem dX0_set_8 : decode cX0_set 8 = .ok (.ifCond .lt 8, 3) := by decide +kernel
theorem dX0_set_11 : decode cX0_set 11 = .ok (.iload_n 2, 1) := by decide +kernel
theorem dX0_set_12 : decode cX0_set 12 = .ok (.iconst 1, 1) := by decide +kernel
theorem dX0_set_13 : decode cX0_set 13 = .ok (.if_icmp .le 5, 3) := by decide +kernel
theorem dX0_set_16 : decode cX0_set 16 = .ok (.iconst (-1), 1) := by decide +kernel
theorem dX0_set_17 : decode cX0_set 17 = .ok (.ireturn, 1) := by decide +kernel
theorem dX0_set_18 : decode cX0_set 18 = .ok (.aload_n 0, 1) := by decide +kernel
theorem dX0_set_19 : decode cX0_set 19 = .ok (.getfield 25, 3) := by decide +kernel
theorem dX0_set_22 : decode cX0_set 22 = .ok (.iload_n 1, 1) := by decide +kernel
theorem dX0_set_23 : decode cX0_set 23 = .ok (.iaload, 1) := by decide +kernel
theorem dX0_set_24 : decode cX0_set 24 = .ok (.istore_n 3, 1) := by decide +kernel
theorem dX0_set_25 : decode cX0_set 25 = .ok (.aload_n 0, 1) := by decide +kernel
theorem dX0_set_26 : decode cX0_set 26 = .ok (.getfield 25, 3) := by decide +kernel
theorem dX0_set_29 : decode cX0_set 29 = .ok (.iload_n 1, 1) := by decide +kernel
theorem dX0_set_30 : decode cX0_set 30 = .ok (.iload_n 2, 1) := by decide +kernel
theorem dX0_set_31 : decode cX0_set 31 = .ok (.iastore, 1) := by decide +kernel
theorem dX0_set_32 : decode cX0_set 32 = .ok (.iload_n 3, 1) := by decide +kernel
theorem dX0_set_33 : decode cX0_set 33 = .ok (.ireturn, 1) := by decide +kernel
set_option maxRecDepth 20000 in
theorem ggX0_get_X0_isVariable : GoodIn wsX0_get wsX0_isVariable := goodIn_r _ [5] (by decide +kernel) (by decide +kernel)
set_option maxRecDepth 20000 in
theorem gX0_get_X0_isVariable : GoodIn wsX0_get (va_wsS RX0 52 yX0_isVariable wsX0_isVariable) := goodIn_app (goodIn_of _ (by decide +kernel)) ggX0_get_X0_isVariable
theorem dX0_get_0 : decode cX0_get 0 = .ok (.iload_n 1, 1) := by decide +kernel
theorem dX0_get_1 : decode cX0_get 1 = .ok (.invokestatic 52, 3) := by decide +kernel
theorem dX0_get_4 : decode cX0_get 4 = .ok (.ifCond .eq 12, 3) := by decide +kernel
theorem dX0_get_7 : decode cX0_get 7 = .ok (.aload_n 0, 1) := by decide +kernel
theorem dX0_get_8 : decode cX0_get 8 = .ok (.getfield 25, 3) := by decide +kernel
theorem dX0_get_11 : decode cX0_get 11 = .ok (.iload_n 1, 1) := by decide +kernel
theorem dX0_get_12 : decode cX0_get 12 = .ok (.iaload, 1) := by decide +kernel
theorem dX0_get_13 : decode cX0_get 13 = .ok (.goto 4, 3) := by decide +kernel
theorem dX0_get_16 : decode cX0_get 16 = .ok (.iconst (-1), 1) := by decide +kernel
theorem dX0_get_17 : decode cX0_get 17 = .ok (.ireturn, 1) := by decide +kernel
set_option maxRecDepth 20000 in
theorem ggX0_scan_X0_pointAt : GoodIn wsX0_scan wsX0_pointAt := goodIn_r _ [8] (by decide +kernel) (by decide +kernel)
set_option maxRecDepth 20000 in
theorem gX0_scan_X0_pointAt : GoodIn wsX0_scan (va_wsS RX0 62 yX0_pointAt wsX0_pointAt) := goodIn_app (goodIn_of _ (by decide +kernel)) ggX0_scan_X0_pointAt
set_option maxRecDepth 20000 in
theorem ggX0_scan_X0_passColumn : GoodIn wsX0_scan wsX0_passColumn := goodIn_r _ [12, 1, 13, 14, 2, 15, 16, 17, 18, 7, 19, 5, 6, 8, 20, 21, 22, 38, 39, 40, 41, 42, 43, 44, 45, 46] (by decide +kernel) (by decide +kernel)
set_option maxRecDepth 20000 in
theorem gX0_scan_X0_passColumn : GoodIn wsX0_scan (wsV RX0 65 RX0 yX0_passColumn wsX0_passColumn) := goodIn_app (goodIn_of _ (by decide +kernel)) ggX0_scan_X0_passColumn
set_option maxRecDepth 20000 in
theorem ggX0_scan_X0_shareAlongLinks : GoodIn wsX0_scan wsX0_shareAlongLinks := goodIn_r _ [26, 1, 27, 2, 5, 6, 7, 8, 38, 39, 40, 41, 42, 43, 44, 45, 46] (by decide +kernel) (by decide +kernel)
set_option maxRecDepth 20000 in
theorem gX0_scan_X0_shareAlongLinks : GoodIn wsX0_scan (wsV RX0 69 RX0 yX0_shareAlongLinks wsX0_shareAlongLinks) := goodIn_app (goodIn_of _ (by decide +kernel)) ggX0_scan_X0_shareAlongLinks
set_option maxRecDepth 20000 in
theorem ggX0_scan_X0_driveCoils : GoodIn wsX0_scan wsX0_driveCoils := goodIn_r _ [31, 1, 3, 15, 2, 14, 13, 17, 18, 7, 19, 32, 33, 34, 5, 6, 8, 35, 36, 37, 38, 39, 40, 41, 42, 43, 44, 45, 46] (by decide +kernel) (by decide +kernel)
set_option maxRecDepth 20000 in
theorem gX0_scan_X0_driveCoils : GoodIn wsX0_scan (wsV RX0 72 RX0 yX0_driveCoils wsX0_driveCoils) := goodIn_app (goodIn_of _ (by decide +kernel)) ggX0_scan_X0_driveCoils
theorem dX0_scan_0 : decode cX0_scan 0 = .ok (.iconst 0, 1) := by decide +kernel
theorem dX0_scan_1 : decode cX0_scan 1 = .ok (.istore_n 1, 1) := by decide +kernel
theorem dX0_scan_2 : decode cX0_scan 2 = .ok (.iload_n 1, 1) := by decide +kernel
theorem dX0_scan_3 : decode cX0_scan 3 = .ok (.aload_n 0, 1) := by decide +kernel
theorem dX0_scan_4 : decode cX0_scan 4 = .ok (.getfield 28, 3) := by decide +kernel
theorem dX0_scan_7 : decode cX0_scan 7 = .ok (.if_icmp .ge 20, 3) := by decide +kernel
theorem dX0_scan_10 : decode cX0_scan 10 = .ok (.aload_n 0, 1) := by decide +kernel
theorem dX0_scan_11 : decode cX0_scan 11 = .ok (.getfield 22, 3) := by decide +kernel
theorem dX0_scan_14 : decode cX0_scan 14 = .ok (.iload_n 1, 1) := by decide +kernel
theorem dX0_scan_15 : decode cX0_scan 15 = .ok (.iconst 0, 1) := by decide +kernel
theorem dX0_scan_16 : decode cX0_scan 16 = .ok (.invokestatic 62, 3) := by decide +kernel
theorem dX0_scan_19 : decode cX0_scan 19 = .ok (.iconst 1, 1) := by decide +kernel
theorem dX0_scan_20 : decode cX0_scan 20 = .ok (.iastore, 1) := by decide +kernel
theorem dX0_scan_21 : decode cX0_scan 21 = .ok (.iinc 1 1, 3) := by decide +kernel
theorem dX0_scan_24 : decode cX0_scan 24 = .ok (.goto (-22), 3) := by decide +kernel
theorem dX0_scan_27 : decode cX0_scan 27 = .ok (.iconst 0, 1) := by decide +kernel
theorem dX0_scan_28 : decode cX0_scan 28 = .ok (.istore_n 1, 1) := by decide +kernel
theorem dX0_scan_29 : decode cX0_scan 29 = .ok (.iload_n 1, 1) := by decide +kernel
theorem dX0_scan_30 : decode cX0_scan 30 = .ok (.aload_n 0, 1) := by decide +kernel
theorem dX0_scan_31 : decode cX0_scan 31 = .ok (.getfield 32, 3) := by decide +kernel
theorem dX0_scan_34 : decode cX0_scan 34 = .ok (.if_icmp .ge 21, 3) := by decide +kernel
theorem dX0_scan_37 : decode cX0_scan 37 = .ok (.aload_n 0, 1) := by decide +kernel
theorem dX0_scan_38 : decode cX0_scan 38 = .ok (.iload_n 1, 1) := by decide +kernel
theorem dX0_scan_39 : decode cX0_scan 39 = .ok (.invokevirtual 65, 3) := by decide +kernel
theorem dX0_scan_42 : decode cX0_scan 42 = .ok (.aload_n 0, 1) := by decide +kernel
theorem dX0_scan_43 : decode cX0_scan 43 = .ok (.iload_n 1, 1) := by decide +kernel
theorem dX0_scan_44 : decode cX0_scan 44 = .ok (.iconst 1, 1) := by decide +kernel
theorem dX0_scan_45 : decode cX0_scan 45 = .ok (.iadd, 1) := by decide +kernel
theorem dX0_scan_46 : decode cX0_scan 46 = .ok (.invokevirtual 69, 3) := by decide +kernel
theorem dX0_scan_49 : decode cX0_scan 49 = .ok (.iinc 1 1, 3) := by decide +kernel
theorem dX0_scan_52 : decode cX0_scan 52 = .ok (.goto (-23), 3) := by decide +kernel
theorem dX0_scan_55 : decode cX0_scan 55 = .ok (.aload_n 0, 1) := by decide +kernel
theorem dX0_scan_56 : decode cX0_scan 56 = .ok (.iconst 1, 1) := by decide +kernel
theorem dX0_scan_57 : decode cX0_scan 57 = .ok (.putfield 35, 3) := by decide +kernel
theorem dX0_scan_60 : decode cX0_scan 60 = .ok (.aload_n 0, 1) := by decide +kernel
theorem dX0_scan_61 : decode cX0_scan 61 = .ok (.invokevirtual 72, 3) := by decide +kernel
theorem dX0_scan_64 : decode cX0_scan 64 = .ok (.ireturn, 1) := by decide +kernel
set_option maxRecDepth 20000 in
theorem ggX0_power_X0_isRow : GoodIn wsX0_power wsX0_isRow := goodIn_r _ [9, 10, 24, 25, 26, 27, 28, 29, 30, 31, 32] (by decide +kernel) (by decide +kernel)
set_option maxRecDepth 20000 in
theorem gX0_power_X0_isRow : GoodIn wsX0_power (wsV RX0 45 RX0 yX0_isRow wsX0_isRow) := goodIn_app (goodIn_of _ (by decide +kernel)) ggX0_power_X0_isRow
set_option maxRecDepth 20000 in
theorem ggX0_power_X0_isLine : GoodIn wsX0_power wsX0_isLine := goodIn_r _ [14, 2, 24, 25, 26, 27, 28, 29, 30, 31, 32] (by decide +kernel) (by decide +kernel)
set_option maxRecDepth 20000 in
theorem gX0_power_X0_isLine : GoodIn wsX0_power (wsV RX0 76 RX0 yX0_isLine wsX0_isLine) := goodIn_app (goodIn_of _ (by decide +kernel)) ggX0_power_X0_isLine
set_option maxRecDepth 20000 in
theorem ggX0_power_X0_cellAt : GoodIn wsX0_power wsX0_cellAt := goodIn_r _ [17] (by decide +kernel) (by decide +kernel)
set_option maxRecDepth 20000 in
theorem gX0_power_X0_cellAt : GoodIn wsX0_power (va_wsS RX0 58 yX0_cellAt wsX0_cellAt) := goodIn_app (goodIn_of _ (by decide +kernel)) ggX0_power_X0_cellAt
set_option maxRecDepth 20000 in
theorem ggX0_power_X0_isCoil : GoodIn wsX0_power wsX0_isCoil := goodIn_r _ [20] (by decide +kernel) (by decide +kernel)
set_option maxRecDepth 20000 in
theorem gX0_power_X0_isCoil : GoodIn wsX0_power (va_wsS RX0 55 yX0_isCoil wsX0_isCoil) := goodIn_app (goodIn_of _ (by decide +kernel)) ggX0_power_X0_isCoil
set_option maxRecDepth 20000 in
theorem ggX0_power_X0_pointAt : GoodIn wsX0_power wsX0_pointAt := goodIn_r _ [23] (by decide +kernel) (by decide +kernel)
set_option maxRecDepth 20000 in
theorem gX0_power_X0_pointAt : GoodIn wsX0_power (va_wsS RX0 62 yX0_pointAt wsX0_pointAt) := goodIn_app (goodIn_of _ (by decide +kernel)) ggX0_power_X0_pointAt
theorem dX0_power_0 : decode cX0_power 0 = .ok (.aload_n 0, 1) := by decide +kernel
theorem dX0_power_1 : decode cX0_power 1 = .ok (.iload_n 1, 1) := by decide +kernel
theorem dX0_power_2 : decode cX0_power 2 = .ok (.invokevirtual 45, 3) := by decide +kernel
theorem dX0_power_5 : decode cX0_power 5 = .ok (.ifCond .eq 18, 3) := by decide +kernel
theorem dX0_power_8 : decode cX0_power 8 = .ok (.aload_n 0, 1) := by decide +kernel
theorem dX0_power_9 : decode cX0_power 9 = .ok (.iload_n 2, 1) := by decide +kernel
theorem dX0_power_10 : decode cX0_power 10 = .ok (.invokevirtual 76, 3) := by decide +kernel
theorem dX0_power_13 : decode cX0_power 13 = .ok (.ifCond .eq 10, 3) := by decide +kernel
theorem dX0_power_16 : decode cX0_power 16 = .ok (.aload_n 0, 1) := by decide +kernel
theorem dX0_power_17 : decode cX0_power 17 = .ok (.getfield 35, 3) := by decide +kernel
theorem dX0_power_20 : decode cX0_power 20 = .ok (.ifCond .ne 5, 3) := by decide +kernel
theorem dX0_power_23 : decode cX0_power 23 = .ok (.iconst (-1), 1) := by decide +kernel
theorem dX0_power_24 : decode cX0_power 24 = .ok (.ireturn, 1) := by decide +kernel
theorem dX0_power_25 : decode cX0_power 25 = .ok (.iload_n 2, 1) := by decide +kernel
theorem dX0_power_26 : decode cX0_power 26 = .ok (.aload_n 0, 1) := by decide +kernel
theorem dX0_power_27 : decode cX0_power 27 = .ok (.getfield 32, 3) := by decide +kernel
theorem dX0_power_30 : decode cX0_power 30 = .ok (.if_icmp .ne 26, 3) := by decide +kernel
theorem dX0_power_33 : decode cX0_power 33 = .ok (.aload_n 0, 1) := by decide +kernel
theorem dX0_power_34 : decode cX0_power 34 = .ok (.getfield 9, 3) := by decide +kernel
theorem dX0_power_37 : decode cX0_power 37 = .ok (.iload_n 1, 1) := by decide +kernel
theorem dX0_power_38 : decode cX0_power 38 = .ok (.aload_n 0, 1) := by decide +kernel
theorem dX0_power_39 : decode cX0_power 39 = .ok (.getfield 32, 3) := by decide +kernel
theorem dX0_power_42 : decode cX0_power 42 = .ok (.iconst 1, 1) := by decide +kernel
theorem dX0_power_43 : decode cX0_power 43 = .ok (.isub, 1) := by decide +kernel
theorem dX0_power_44 : decode cX0_power 44 = .ok (.invokestatic 58, 3) := by decide +kernel
theorem dX0_power_47 : decode cX0_power 47 = .ok (.iaload, 1) := by decide +kernel
theorem dX0_power_48 : decode cX0_power 48 = .ok (.invokestatic 55, 3) := by decide +kernel
theorem dX0_power_51 : decode cX0_power 51 = .ok (.ifCond .eq 5, 3) := by decide +kernel
theorem dX0_power_54 : decode cX0_power 54 = .ok (.iconst (-1), 1) := by decide +kernel
theorem dX0_power_55 : decode cX0_power 55 = .ok (.ireturn, 1) := by decide +kernel
theorem dX0_power_56 : decode cX0_power 56 = .ok (.aload_n 0, 1) := by decide +kernel
theorem dX0_power_57 : decode cX0_power 57 = .ok (.getfield 22, 3) := by decide +kernel
theorem dX0_power_60 : decode cX0_power 60 = .ok (.iload_n 1, 1) := by decide +kernel
theorem dX0_power_61 : decode cX0_power 61 = .ok (.iload_n 2, 1) := by decide +kernel
theorem dX0_power_62 : decode cX0_power 62 = .ok (.invokestatic 62, 3) := by decide +kernel
theorem dX0_power_65 : decode cX0_power 65 = .ok (.iaload, 1) := by decide +kernel
theorem dX0_power_66 : decode cX0_power 66 = .ok (.ireturn, 1) := by decide +kernel
set_option maxRecDepth 20000 in
theorem ggX0_steps_X0_lineSteps : GoodIn wsX0_steps wsX0_lineSteps := goodIn_r _ [6, 7, 8, 9, 10, 11, 12, 5, 13, 14, 15, 16, 17, 18, 19, 20, 21, 22, 27, 28, 29, 30, 31, 32, 33, 34, 35] (by decide +kernel) (by decide +kernel)
set_option maxRecDepth 20000 in
theorem gX0_steps_X0_lineSteps : GoodIn wsX0_steps (wsV RX0 79 RX0 yX0_lineSteps wsX0_lineSteps) := goodIn_app (goodIn_of _ (by decide +kernel)) ggX0_steps_X0_lineSteps
set_option maxRecDepth 20000 in
theorem ggX0_steps_X0_coilSteps : GoodIn wsX0_steps wsX0_coilSteps := goodIn_r _ [26, 7, 8, 1, 9, 11, 12, 5, 13, 14, 15, 16, 27, 28, 29, 30, 31, 32, 33, 34, 35] (by decide +kernel) (by decide +kernel)
set_option maxRecDepth 20000 in
theorem gX0_steps_X0_coilSteps : GoodIn wsX0_steps (wsV RX0 83 RX0 yX0_coilSteps wsX0_coilSteps) := goodIn_app (goodIn_of _ (by decide +kernel)) ggX0_steps_X0_coilSteps
theorem dX0_steps_0 : decode cX0_steps 0 = .ok (.iconst 0, 1) := by decide +kernel
theorem dX0_steps_1 : decode cX0_steps 1 = .ok (.istore_n 1, 1) := by decide +kernel
end
section
theorem dX0_steps_2 : decode cX0_steps 2 = .ok (.iconst 1, 1) := by decide +kernel
theorem dX0_steps_3 : decode cX0_steps 3 = .ok (.istore_n 2, 1) := by decide +kernel
theorem dX0_steps_4 : decode cX0_steps 4 = .ok (.iload_n 2, 1) := by decide +kernel
theorem dX0_steps_5 : decode cX0_steps 5 = .ok (.aload_n 0, 1) := by decide +kernel
theorem dX0_steps_6 : decode cX0_steps 6 = .ok (.getfield 32, 3) := by decide +kernel
theorem dX0_steps_9 : decode cX0_steps 9 = .ok (.if_icmp .gt 17, 3) := by decide +kernel
theorem dX0_steps_12 : decode cX0_steps 12 = .ok (.iload_n 1, 1) := by decide +kernel
theorem dX0_steps_13 : decode cX0_steps 13 = .ok (.aload_n 0, 1) := by decide +kernel
theorem dX0_steps_14 : decode cX0_steps 14 = .ok (.iload_n 2, 1) := by decide +kernel
theorem dX0_steps_15 : decode cX0_steps 15 = .ok (.invokevirtual 79, 3) := by decide +kernel
theorem dX0_steps_18 : decode cX0_steps 18 = .ok (.iadd, 1) := by decide +kernel
theorem dX0_steps_19 : decode cX0_steps 19 = .ok (.istore_n 1, 1) := by decide +kernel
theorem dX0_steps_20 : decode cX0_steps 20 = .ok (.iinc 2 1, 3) := by decide +kernel
theorem dX0_steps_23 : decode cX0_steps 23 = .ok (.goto (-19), 3) := by decide +kernel
theorem dX0_steps_26 : decode cX0_steps 26 = .ok (.iload_n 1, 1) := by decide +kernel
theorem dX0_steps_27 : decode cX0_steps 27 = .ok (.aload_n 0, 1) := by decide +kernel
theorem dX0_steps_28 : decode cX0_steps 28 = .ok (.invokevirtual 83, 3) := by decide +kernel
theorem dX0_steps_31 : decode cX0_steps 31 = .ok (.iadd, 1) := by decide +kernel
theorem dX0_steps_32 : decode cX0_steps 32 = .ok (.ireturn, 1) := by decide +kernel
set_option maxRecDepth 20000 in
theorem ggX0_groups_X0_isLine : GoodIn wsX0_groups wsX0_isLine := goodIn_r _ [7, 8, 12, 13, 14, 15, 16, 17, 18, 19, 20] (by decide +kernel) (by decide +kernel)
set_option maxRecDepth 20000 in
theorem gX0_groups_X0_isLine : GoodIn wsX0_groups (wsV RX0 76 RX0 yX0_isLine wsX0_isLine) := goodIn_app (goodIn_of _ (by decide +kernel)) ggX0_groups_X0_isLine
set_option maxRecDepth 20000 in
theorem ggX0_groups_X0_pointAt : GoodIn wsX0_groups wsX0_pointAt := goodIn_r _ [11] (by decide +kernel) (by decide +kernel)
set_option maxRecDepth 20000 in
theorem gX0_groups_X0_pointAt : GoodIn wsX0_groups (va_wsS RX0 62 yX0_pointAt wsX0_pointAt) := goodIn_app (goodIn_of _ (by decide +kernel)) ggX0_groups_X0_pointAt
theorem dX0_groups_0 : decode cX0_groups 0 = .ok (.aload_n 0, 1) := by decide +kernel
theorem dX0_groups_1 : decode cX0_groups 1 = .ok (.iload_n 1, 1) := by decide +kernel
theorem dX0_groups_2 : decode cX0_groups 2 = .ok (.invokevirtual 76, 3) := by decide +kernel
theorem dX0_groups_5 : decode cX0_groups 5 = .ok (.ifCond .ne 5, 3) := by decide +kernel
theorem dX0_groups_8 : decode cX0_groups 8 = .ok (.iconst (-1), 1) := by decide +kernel
theorem dX0_groups_9 : decode cX0_groups 9 = .ok (.ireturn, 1) := by decide +kernel
theorem dX0_groups_10 : decode cX0_groups 10 = .ok (.aload_n 0, 1) := by decide +kernel
theorem dX0_groups_11 : decode cX0_groups 11 = .ok (.getfield 28, 3) := by decide +kernel
theorem dX0_groups_14 : decode cX0_groups 14 = .ok (.istore_n 2, 1) := by decide +kernel
theorem dX0_groups_15 : decode cX0_groups 15 = .ok (.iconst 0, 1) := by decide +kernel
theorem dX0_groups_16 : decode cX0_groups 16 = .ok (.istore_n 3, 1) := by decide +kernel
theorem dX0_groups_17 : decode cX0_groups 17 = .ok (.iload_n 3, 1) := by decide +kernel
theorem dX0_groups_18 : decode cX0_groups 18 = .ok (.aload_n 0, 1) := by decide +kernel
theorem dX0_groups_19 : decode cX0_groups 19 = .ok (.getfield 28, 3) := by decide +kernel
theorem dX0_groups_22 : decode cX0_groups 22 = .ok (.if_icmp .ge 22, 3) := by decide +kernel
theorem dX0_groups_25 : decode cX0_groups 25 = .ok (.iload_n 2, 1) := by decide +kernel
theorem dX0_groups_26 : decode cX0_groups 26 = .ok (.aload_n 0, 1) := by decide +kernel
theorem dX0_groups_27 : decode cX0_groups 27 = .ok (.getfield 19, 3) := by decide +kernel
theorem dX0_groups_30 : decode cX0_groups 30 = .ok (.iload_n 3, 1) := by decide +kernel
theorem dX0_groups_31 : decode cX0_groups 31 = .ok (.iload_n 1, 1) := by decide +kernel
theorem dX0_groups_32 : decode cX0_groups 32 = .ok (.invokestatic 62, 3) := by decide +kernel
theorem dX0_groups_35 : decode cX0_groups 35 = .ok (.iaload, 1) := by decide +kernel
theorem dX0_groups_36 : decode cX0_groups 36 = .ok (.isub, 1) := by decide +kernel
theorem dX0_groups_37 : decode cX0_groups 37 = .ok (.istore_n 2, 1) := by decide +kernel
theorem dX0_groups_38 : decode cX0_groups 38 = .ok (.iinc 3 1, 3) := by decide +kernel
theorem dX0_groups_41 : decode cX0_groups 41 = .ok (.goto (-24), 3) := by decide +kernel
theorem dX0_groups_44 : decode cX0_groups 44 = .ok (.iload_n 2, 1) := by decide +kernel
theorem dX0_groups_45 : decode cX0_groups 45 = .ok (.ireturn, 1) := by decide +kernel
set_option maxRecDepth 20000 in
theorem ggX0_passColumn_X0_cellAt : GoodIn wsX0_passColumn wsX0_cellAt := goodIn_r _ [10] (by decide +kernel) (by decide +kernel)
set_option maxRecDepth 20000 in
theorem gX0_passColumn_X0_cellAt : GoodIn wsX0_passColumn (va_wsS RX0 58 yX0_cellAt wsX0_cellAt) := goodIn_app (goodIn_of _ (by decide +kernel)) ggX0_passColumn_X0_cellAt
set_option maxRecDepth 20000 in
theorem ggX0_passColumn_X0_pointAt : GoodIn wsX0_passColumn wsX0_pointAt := goodIn_r _ [13] (by decide +kernel) (by decide +kernel)
set_option maxRecDepth 20000 in
theorem gX0_passColumn_X0_pointAt : GoodIn wsX0_passColumn (va_wsS RX0 62 yX0_pointAt wsX0_pointAt) := goodIn_app (goodIn_of _ (by decide +kernel)) ggX0_passColumn_X0_pointAt
set_option maxRecDepth 20000 in
theorem ggX0_passColumn_X0_letsThrough : GoodIn wsX0_passColumn wsX0_letsThrough := goodIn_r _ [16] (by decide +kernel) (by decide +kernel)
set_option maxRecDepth 20000 in
theorem gX0_passColumn_X0_letsThrough : GoodIn wsX0_passColumn (va_wsS RX0 86 yX0_letsThrough wsX0_letsThrough) := goodIn_app (goodIn_of _ (by decide +kernel)) ggX0_passColumn_X0_letsThrough
theorem dX0_passColumn_0 : decode cX0_passColumn 0 = .ok (.iconst 0, 1) := by decide +kernel
theorem dX0_passColumn_1 : decode cX0_passColumn 1 = .ok (.istore_n 2, 1) := by decide +kernel
theorem dX0_passColumn_2 : decode cX0_passColumn 2 = .ok (.iload_n 2, 1) := by decide +kernel
theorem dX0_passColumn_3 : decode cX0_passColumn 3 = .ok (.aload_n 0, 1) := by decide +kernel
theorem dX0_passColumn_4 : decode cX0_passColumn 4 = .ok (.getfield 28, 3) := by decide +kernel
theorem dX0_passColumn_7 : decode cX0_passColumn 7 = .ok (.if_icmp .ge 99, 3) := by decide +kernel
theorem dX0_passColumn_10 : decode cX0_passColumn 10 = .ok (.iload_n 2, 1) := by decide +kernel
theorem dX0_passColumn_11 : decode cX0_passColumn 11 = .ok (.iload_n 1, 1) := by decide +kernel
theorem dX0_passColumn_12 : decode cX0_passColumn 12 = .ok (.invokestatic 58, 3) := by decide +kernel
theorem dX0_passColumn_15 : decode cX0_passColumn 15 = .ok (.istore_n 3, 1) := by decide +kernel
theorem dX0_passColumn_16 : decode cX0_passColumn 16 = .ok (.aload_n 0, 1) := by decide +kernel
theorem dX0_passColumn_17 : decode cX0_passColumn 17 = .ok (.getfield 25, 3) := by decide +kernel
theorem dX0_passColumn_20 : decode cX0_passColumn 20 = .ok (.aload_n 0, 1) := by decide +kernel
theorem dX0_passColumn_21 : decode cX0_passColumn 21 = .ok (.getfield 13, 3) := by decide +kernel
theorem dX0_passColumn_24 : decode cX0_passColumn 24 = .ok (.iload_n 3, 1) := by decide +kernel
theorem dX0_passColumn_25 : decode cX0_passColumn 25 = .ok (.iaload, 1) := by decide +kernel
theorem dX0_passColumn_26 : decode cX0_passColumn 26 = .ok (.iaload, 1) := by decide +kernel
theorem dX0_passColumn_27 : decode cX0_passColumn 27 = .ok (.istore 4, 2) := by decide +kernel
theorem dX0_passColumn_29 : decode cX0_passColumn 29 = .ok (.aload_n 0, 1) := by decide +kernel
theorem dX0_passColumn_30 : decode cX0_passColumn 30 = .ok (.getfield 22, 3) := by decide +kernel
theorem dX0_passColumn_33 : decode cX0_passColumn 33 = .ok (.iload_n 2, 1) := by decide +kernel
theorem dX0_passColumn_34 : decode cX0_passColumn 34 = .ok (.iload_n 1, 1) := by decide +kernel
theorem dX0_passColumn_35 : decode cX0_passColumn 35 = .ok (.invokestatic 62, 3) := by decide +kernel
theorem dX0_passColumn_38 : decode cX0_passColumn 38 = .ok (.iaload, 1) := by decide +kernel
theorem dX0_passColumn_39 : decode cX0_passColumn 39 = .ok (.iconst 1, 1) := by decide +kernel
theorem dX0_passColumn_40 : decode cX0_passColumn 40 = .ok (.if_icmp .ne 27, 3) := by decide +kernel
theorem dX0_passColumn_43 : decode cX0_passColumn 43 = .ok (.aload_n 0, 1) := by decide +kernel
theorem dX0_passColumn_44 : decode cX0_passColumn 44 = .ok (.getfield 9, 3) := by decide +kernel
theorem dX0_passColumn_47 : decode cX0_passColumn 47 = .ok (.iload_n 3, 1) := by decide +kernel
theorem dX0_passColumn_48 : decode cX0_passColumn 48 = .ok (.iaload, 1) := by decide +kernel
theorem dX0_passColumn_49 : decode cX0_passColumn 49 = .ok (.iload 4, 2) := by decide +kernel
theorem dX0_passColumn_51 : decode cX0_passColumn 51 = .ok (.aload_n 0, 1) := by decide +kernel
theorem dX0_passColumn_52 : decode cX0_passColumn 52 = .ok (.getfield 16, 3) := by decide +kernel
theorem dX0_passColumn_55 : decode cX0_passColumn 55 = .ok (.iload_n 3, 1) := by decide +kernel
theorem dX0_passColumn_56 : decode cX0_passColumn 56 = .ok (.iaload, 1) := by decide +kernel
theorem dX0_passColumn_57 : decode cX0_passColumn 57 = .ok (.invokestatic 86, 3) := by decide +kernel
theorem dX0_passColumn_60 : decode cX0_passColumn 60 = .ok (.ifCond .eq 7, 3) := by decide +kernel
theorem dX0_passColumn_63 : decode cX0_passColumn 63 = .ok (.iconst 1, 1) := by decide +kernel
theorem dX0_passColumn_64 : decode cX0_passColumn 64 = .ok (.goto 4, 3) := by decide +kernel
theorem dX0_passColumn_67 : decode cX0_passColumn 67 = .ok (.iconst 0, 1) := by decide +kernel
theorem dX0_passColumn_68 : decode cX0_passColumn 68 = .ok (.istore 5, 2) := by decide +kernel
theorem dX0_passColumn_70 : decode cX0_passColumn 70 = .ok (.aload_n 0, 1) := by decide +kernel
theorem dX0_passColumn_71 : decode cX0_passColumn 71 = .ok (.getfield 22, 3) := by decide +kernel
theorem dX0_passColumn_74 : decode cX0_passColumn 74 = .ok (.iload_n 2, 1) := by decide +kernel
theorem dX0_passColumn_75 : decode cX0_passColumn 75 = .ok (.iload_n 1, 1) := by decide +kernel
theorem dX0_passColumn_76 : decode cX0_passColumn 76 = .ok (.iconst 1, 1) := by decide +kernel
theorem dX0_passColumn_77 : decode cX0_passColumn 77 = .ok (.iadd, 1) := by decide +kernel
theorem dX0_passColumn_78 : decode cX0_passColumn 78 = .ok (.invokestatic 62, 3) := by decide +kernel
theorem dX0_passColumn_81 : decode cX0_passColumn 81 = .ok (.iload 5, 2) := by decide +kernel
theorem dX0_passColumn_83 : decode cX0_passColumn 83 = .ok (.ifCond .eq 7, 3) := by decide +kernel
theorem dX0_passColumn_86 : decode cX0_passColumn 86 = .ok (.iconst 1, 1) := by decide +kernel
theorem dX0_passColumn_87 : decode cX0_passColumn 87 = .ok (.goto 4, 3) := by decide +kernel
theorem dX0_passColumn_90 : decode cX0_passColumn 90 = .ok (.iconst 0, 1) := by decide +kernel
theorem dX0_passColumn_91 : decode cX0_passColumn 91 = .ok (.iastore, 1) := by decide +kernel
theorem dX0_passColumn_92 : decode cX0_passColumn 92 = .ok (.aload_n 0, 1) := by decide +kernel
theorem dX0_passColumn_93 : decode cX0_passColumn 93 = .ok (.getfield 16, 3) := by decide +kernel
theorem dX0_passColumn_96 : decode cX0_passColumn 96 = .ok (.iload_n 3, 1) := by decide +kernel
theorem dX0_passColumn_97 : decode cX0_passColumn 97 = .ok (.iload 4, 2) := by decide +kernel
theorem dX0_passColumn_99 : decode cX0_passColumn 99 = .ok (.iastore, 1) := by decide +kernel
theorem dX0_passColumn_100 : decode cX0_passColumn 100 = .ok (.iinc 2 1, 3) := by decide +kernel
theorem dX0_passColumn_103 : decode cX0_passColumn 103 = .ok (.goto (-101), 3) := by decide +kernel
theorem dX0_passColumn_106 : decode cX0_passColumn 106 = .ok (.return_, 1) := by decide +kernel
set_option maxRecDepth 20000 in
theorem ggX0_shareAlongLinks_X0_pointAt : GoodIn wsX0_shareAlongLinks wsX0_pointAt := goodIn_r _ [7] (by decide +kernel) (by decide +kernel)
set_option maxRecDepth 20000 in
theorem gX0_shareAlongLinks_X0_pointAt : GoodIn wsX0_shareAlongLinks (va_wsS RX0 62 yX0_pointAt wsX0_pointAt) := goodIn_app (goodIn_of _ (by decide +kernel)) ggX0_shareAlongLinks_X0_pointAt
theorem dX0_shareAlongLinks_0 : decode cX0_shareAlongLinks 0 = .ok (.iconst 0, 1) := by decide +kernel
theorem dX0_shareAlongLinks_1 : decode cX0_shareAlongLinks 1 = .ok (.istore_n 2, 1) := by decide +kernel
theorem dX0_shareAlongLinks_2 : decode cX0_shareAlongLinks 2 = .ok (.iload_n 2, 1) := by decide +kernel
theorem dX0_shareAlongLinks_3 : decode cX0_shareAlongLinks 3 = .ok (.aload_n 0, 1) := by decide +kernel
theorem dX0_shareAlongLinks_4 : decode cX0_shareAlongLinks 4 = .ok (.getfield 28, 3) := by decide +kernel
theorem dX0_shareAlongLinks_7 : decode cX0_shareAlongLinks 7 = .ok (.iconst 1, 1) := by decide +kernel
theorem dX0_shareAlongLinks_8 : decode cX0_shareAlongLinks 8 = .ok (.isub, 1) := by decide +kernel
theorem dX0_shareAlongLinks_9 : decode cX0_shareAlongLinks 9 = .ok (.if_icmp .ge 50, 3) := by decide +kernel
theorem dX0_shareAlongLinks_12 : decode cX0_shareAlongLinks 12 = .ok (.aload_n 0, 1) := by decide +kernel
theorem dX0_shareAlongLinks_13 : decode cX0_shareAlongLinks 13 = .ok (.getfield 19, 3) := by decide +kernel
theorem dX0_shareAlongLinks_16 : decode cX0_shareAlongLinks 16 = .ok (.iload_n 2, 1) := by decide +kernel
theorem dX0_shareAlongLinks_17 : decode cX0_shareAlongLinks 17 = .ok (.iload_n 1, 1) := by decide +kernel
theorem dX0_shareAlongLinks_18 : decode cX0_shareAlongLinks 18 = .ok (.invokestatic 62, 3) := by decide +kernel
theorem dX0_shareAlongLinks_21 : decode cX0_shareAlongLinks 21 = .ok (.iaload, 1) := by decide +kernel
theorem dX0_shareAlongLinks_22 : decode cX0_shareAlongLinks 22 = .ok (.iconst 1, 1) := by decide +kernel
theorem dX0_shareAlongLinks_23 : decode cX0_shareAlongLinks 23 = .ok (.if_icmp .ne 30, 3) := by decide +kernel
theorem dX0_shareAlongLinks_26 : decode cX0_shareAlongLinks 26 = .ok (.aload_n 0, 1) := by decide +kernel
theorem dX0_shareAlongLinks_27 : decode cX0_shareAlongLinks 27 = .ok (.getfield 22, 3) := by decide +kernel
theorem dX0_shareAlongLinks_30 : decode cX0_shareAlongLinks 30 = .ok (.iload_n 2, 1) := by decide +kernel
theorem dX0_shareAlongLinks_31 : decode cX0_shareAlongLinks 31 = .ok (.iload_n 1, 1) := by decide +kernel
theorem dX0_shareAlongLinks_32 : decode cX0_shareAlongLinks 32 = .ok (.invokestatic 62, 3) := by decide +kernel
theorem dX0_shareAlongLinks_35 : decode cX0_shareAlongLinks 35 = .ok (.iaload, 1) := by decide +kernel
theorem dX0_shareAlongLinks_36 : decode cX0_shareAlongLinks 36 = .ok (.iconst 1, 1) := by decide +kernel
theorem dX0_shareAlongLinks_37 : decode cX0_shareAlongLinks 37 = .ok (.if_icmp .ne 16, 3) := by decide +kernel
theorem dX0_shareAlongLinks_40 : decode cX0_shareAlongLinks 40 = .ok (.aload_n 0, 1) := by decide +kernel
theorem dX0_shareAlongLinks_41 : decode cX0_shareAlongLinks 41 = .ok (.getfield 22, 3) := by decide +kernel
theorem dX0_shareAlongLinks_44 : decode cX0_shareAlongLinks 44 = .ok (.iload_n 2, 1) := by decide +kernel
theorem dX0_shareAlongLinks_45 : decode cX0_shareAlongLinks 45 = .ok (.iconst 1, 1) := by decide +kernel
theorem dX0_shareAlongLinks_46 : decode cX0_shareAlongLinks 46 = .ok (.iadd, 1) := by decide +kernel
theorem dX0_shareAlongLinks_47 : decode cX0_shareAlongLinks 47 = .ok (.iload_n 1, 1) := by decide +kernel
theorem dX0_shareAlongLinks_48 : decode cX0_shareAlongLinks 48 = .ok (.invokestatic 62, 3) := by decide +kernel
theorem dX0_shareAlongLinks_51 : decode cX0_shareAlongLinks 51 = .ok (.iconst 1, 1) := by decide +kernel
theorem dX0_shareAlongLinks_52 : decode cX0_shareAlongLinks 52 = .ok (.iastore, 1) := by decide +kernel
theorem dX0_shareAlongLinks_53 : decode cX0_shareAlongLinks 53 = .ok (.iinc 2 1, 3) := by decide +kernel
theorem dX0_shareAlongLinks_56 : decode cX0_shareAlongLinks 56 = .ok (.goto (-54), 3) := by decide +kernel
theorem dX0_shareAlongLinks_59 : decode cX0_shareAlongLinks 59 = .ok (.aload_n 0, 1) := by decide +kernel
theorem dX0_shareAlongLinks_60 : decode cX0_shareAlongLinks 60 = .ok (.getfield 28, 3) := by decide +kernel
theorem dX0_shareAlongLinks_63 : decode cX0_shareAlongLinks 63 = .ok (.iconst 2, 1) := by decide +kernel
theorem dX0_shareAlongLinks_64 : decode cX0_shareAlongLinks 64 = .ok (.isub, 1) := by decide +kernel
theorem dX0_shareAlongLinks_65 : decode cX0_shareAlongLinks 65 = .ok (.istore_n 2, 1) := by decide +kernel
theorem dX0_shareAlongLinks_66 : decode cX0_shareAlongLinks 66 = .ok (.iload_n 2, 1) := by decide +kernel
theorem dX0_shareAlongLinks_67 : decode cX0_shareAlongLinks 67 = .ok (.ifCond .lt 50, 3) := by decide +kernel
theorem dX0_shareAlongLinks_70 : decode cX0_shareAlongLinks 70 = .ok (.aload_n 0, 1) := by decide +kernel
theorem dX0_shareAlongLinks_71 : decode cX0_shareAlongLinks 71 = .ok (.getfield 19, 3) := by decide +kernel
theorem dX0_shareAlongLinks_74 : decode cX0_shareAlongLinks 74 = .ok (.iload_n 2, 1) := by decide +kernel
theorem dX0_shareAlongLinks_75 : decode cX0_shareAlongLinks 75 = .ok (.iload_n 1, 1) := by decide +kernel
theorem dX0_shareAlongLinks_76 : decode cX0_shareAlongLinks 76 = .ok (.invokestatic 62, 3) := by decide +kernel
theorem dX0_shareAlongLinks_79 : decode cX0_shareAlongLinks 79 = .ok (.iaload, 1) := by decide +kernel
theorem dX0_shareAlongLinks_80 : decode cX0_shareAlongLinks 80 = .ok (.iconst 1, 1) := by decide +kernel
theorem dX0_shareAlongLinks_81 : decode cX0_shareAlongLinks 81 = .ok (.if_icmp .ne 30, 3) := by decide +kernel
theorem dX0_shareAlongLinks_84 : decode cX0_shareAlongLinks 84 = .ok (.aload_n 0, 1) := by decide +kernel
theorem dX0_shareAlongLinks_85 : decode cX0_shareAlongLinks 85 = .ok (.getfield 22, 3) := by decide +kernel
theorem dX0_shareAlongLinks_88 : decode cX0_shareAlongLinks 88 = .ok (.iload_n 2, 1) := by decide +kernel
theorem dX0_shareAlongLinks_89 : decode cX0_shareAlongLinks 89 = .ok (.iconst 1, 1) := by decide +kernel
theorem dX0_shareAlongLinks_90 : decode cX0_shareAlongLinks 90 = .ok (.iadd, 1) := by decide +kernel
theorem dX0_shareAlongLinks_91 : decode cX0_shareAlongLinks 91 = .ok (.iload_n 1, 1) := by decide +kernel
theorem dX0_shareAlongLinks_92 : decode cX0_shareAlongLinks 92 = .ok (.invokestatic 62, 3) := by decide +kernel
theorem dX0_shareAlongLinks_95 : decode cX0_shareAlongLinks 95 = .ok (.iaload, 1) := by decide +kernel
theorem dX0_shareAlongLinks_96 : decode cX0_shareAlongLinks 96 = .ok (.iconst 1, 1) := by decide +kernel
theorem dX0_shareAlongLinks_97 : decode cX0_shareAlongLinks 97 = .ok (.if_icmp .ne 14, 3) := by decide +kernel
theorem dX0_shareAlongLinks_100 : decode cX0_shareAlongLinks 100 = .ok (.aload_n 0, 1) := by decide +kernel
theorem dX0_shareAlongLinks_101 : decode cX0_shareAlongLinks 101 = .ok (.getfield 22, 3) := by decide +kernel
theorem dX0_shareAlongLinks_104 : decode cX0_shareAlongLinks 104 = .ok (.iload_n 2, 1) := by decide +kernel
theorem dX0_shareAlongLinks_105 : decode cX0_shareAlongLinks 105 = .ok (.iload_n 1, 1) := by decide +kernel
theorem dX0_shareAlongLinks_106 : decode cX0_shareAlongLinks 106 = .ok (.invokestatic 62, 3) := by decide +kernel
theorem dX0_shareAlongLinks_109 : decode cX0_shareAlongLinks 109 = .ok (.iconst 1, 1) := by decide +kernel
theorem dX0_shareAlongLinks_110 : decode cX0_shareAlongLinks 110 = .ok (.iastore, 1) := by decide +kernel
theorem dX0_shareAlongLinks_111 : decode cX0_shareAlongLinks 111 = .ok (.iinc 2 (-1), 3) := by decide +kernel
theorem dX0_shareAlongLinks_114 : decode cX0_shareAlongLinks 114 = .ok (.goto (-48), 3) := by decide +kernel
theorem dX0_shareAlongLinks_117 : decode cX0_shareAlongLinks 117 = .ok (.return_, 1) := by decide +kernel
set_option maxRecDepth 20000 in
theorem ggX0_driveCoils_X0_cellAt : GoodIn wsX0_driveCoils wsX0_cellAt := goodIn_r _ [10] (by decide +kernel) (by decide +kernel)
set_option maxRecDepth 20000 in
theorem gX0_driveCoils_X0_cellAt : GoodIn wsX0_driveCoils (va_wsS RX0 58 yX0_cellAt wsX0_cellAt) := goodIn_app (goodIn_of _ (by decide +kernel)) ggX0_driveCoils_X0_cellAt
set_option maxRecDepth 20000 in
theorem ggX0_driveCoils_X0_isCoil : GoodIn wsX0_driveCoils wsX0_isCoil := goodIn_r _ [13] (by decide +kernel) (by decide +kernel)
set_option maxRecDepth 20000 in
theorem gX0_driveCoils_X0_isCoil : GoodIn wsX0_driveCoils (va_wsS RX0 55 yX0_isCoil wsX0_isCoil) := goodIn_app (goodIn_of _ (by decide +kernel)) ggX0_driveCoils_X0_isCoil
set_option maxRecDepth 20000 in
theorem ggX0_driveCoils_X0_pointAt : GoodIn wsX0_driveCoils wsX0_pointAt := goodIn_r _ [16] (by decide +kernel) (by decide +kernel)
set_option maxRecDepth 20000 in
theorem gX0_driveCoils_X0_pointAt : GoodIn wsX0_driveCoils (va_wsS RX0 62 yX0_pointAt wsX0_pointAt) := goodIn_app (goodIn_of _ (by decide +kernel)) ggX0_driveCoils_X0_pointAt
set_option maxRecDepth 20000 in
theorem ggX0_driveCoils_X0_coilValue : GoodIn wsX0_driveCoils wsX0_coilValue := goodIn_r _ [19] (by decide +kernel) (by decide +kernel)
set_option maxRecDepth 20000 in
theorem gX0_driveCoils_X0_coilValue : GoodIn wsX0_driveCoils (va_wsS RX0 90 yX0_coilValue wsX0_coilValue) := goodIn_app (goodIn_of _ (by decide +kernel)) ggX0_driveCoils_X0_coilValue
theorem dX0_driveCoils_0 : decode cX0_driveCoils 0 = .ok (.iconst 0, 1) := by decide +kernel
theorem dX0_driveCoils_1 : decode cX0_driveCoils 1 = .ok (.istore_n 1, 1) := by decide +kernel
theorem dX0_driveCoils_2 : decode cX0_driveCoils 2 = .ok (.iconst 0, 1) := by decide +kernel
theorem dX0_driveCoils_3 : decode cX0_driveCoils 3 = .ok (.istore_n 2, 1) := by decide +kernel
theorem dX0_driveCoils_4 : decode cX0_driveCoils 4 = .ok (.iload_n 2, 1) := by decide +kernel
theorem dX0_driveCoils_5 : decode cX0_driveCoils 5 = .ok (.aload_n 0, 1) := by decide +kernel
theorem dX0_driveCoils_6 : decode cX0_driveCoils 6 = .ok (.getfield 28, 3) := by decide +kernel
theorem dX0_driveCoils_9 : decode cX0_driveCoils 9 = .ok (.if_icmp .ge 87, 3) := by decide +kernel
theorem dX0_driveCoils_12 : decode cX0_driveCoils 12 = .ok (.iload_n 2, 1) := by decide +kernel
theorem dX0_driveCoils_13 : decode cX0_driveCoils 13 = .ok (.aload_n 0, 1) := by decide +kernel
theorem dX0_driveCoils_14 : decode cX0_driveCoils 14 = .ok (.getfield 32, 3) := by decide +kernel
theorem dX0_driveCoils_17 : decode cX0_driveCoils 17 = .ok (.iconst 1, 1) := by decide +kernel
theorem dX0_driveCoils_18 : decode cX0_driveCoils 18 = .ok (.isub, 1) := by decide +kernel
theorem dX0_driveCoils_19 : decode cX0_driveCoils 19 = .ok (.invokestatic 58, 3) := by decide +kernel
theorem dX0_driveCoils_22 : decode cX0_driveCoils 22 = .ok (.istore_n 3, 1) := by decide +kernel
theorem dX0_driveCoils_23 : decode cX0_driveCoils 23 = .ok (.aload_n 0, 1) := by decide +kernel
theorem dX0_driveCoils_24 : decode cX0_driveCoils 24 = .ok (.getfield 9, 3) := by decide +kernel
theorem dX0_driveCoils_27 : decode cX0_driveCoils 27 = .ok (.iload_n 3, 1) := by decide +kernel
theorem dX0_driveCoils_28 : decode cX0_driveCoils 28 = .ok (.iaload, 1) := by decide +kernel
theorem dX0_driveCoils_29 : decode cX0_driveCoils 29 = .ok (.invokestatic 55, 3) := by decide +kernel
theorem dX0_driveCoils_32 : decode cX0_driveCoils 32 = .ok (.ifCond .eq 58, 3) := by decide +kernel
theorem dX0_driveCoils_35 : decode cX0_driveCoils 35 = .ok (.aload_n 0, 1) := by decide +kernel
theorem dX0_driveCoils_36 : decode cX0_driveCoils 36 = .ok (.getfield 22, 3) := by decide +kernel
theorem dX0_driveCoils_39 : decode cX0_driveCoils 39 = .ok (.iload_n 2, 1) := by decide +kernel
theorem dX0_driveCoils_40 : decode cX0_driveCoils 40 = .ok (.aload_n 0, 1) := by decide +kernel
theorem dX0_driveCoils_41 : decode cX0_driveCoils 41 = .ok (.getfield 32, 3) := by decide +kernel
theorem dX0_driveCoils_44 : decode cX0_driveCoils 44 = .ok (.iconst 1, 1) := by decide +kernel
theorem dX0_driveCoils_45 : decode cX0_driveCoils 45 = .ok (.isub, 1) := by decide +kernel
theorem dX0_driveCoils_46 : decode cX0_driveCoils 46 = .ok (.invokestatic 62, 3) := by decide +kernel
theorem dX0_driveCoils_49 : decode cX0_driveCoils 49 = .ok (.iaload, 1) := by decide +kernel
theorem dX0_driveCoils_50 : decode cX0_driveCoils 50 = .ok (.istore 4, 2) := by decide +kernel
theorem dX0_driveCoils_52 : decode cX0_driveCoils 52 = .ok (.aload_n 0, 1) := by decide +kernel
theorem dX0_driveCoils_53 : decode cX0_driveCoils 53 = .ok (.getfield 13, 3) := by decide +kernel
theorem dX0_driveCoils_56 : decode cX0_driveCoils 56 = .ok (.iload_n 3, 1) := by decide +kernel
theorem dX0_driveCoils_57 : decode cX0_driveCoils 57 = .ok (.iaload, 1) := by decide +kernel
theorem dX0_driveCoils_58 : decode cX0_driveCoils 58 = .ok (.istore 5, 2) := by decide +kernel
theorem dX0_driveCoils_60 : decode cX0_driveCoils 60 = .ok (.aload_n 0, 1) := by decide +kernel
theorem dX0_driveCoils_61 : decode cX0_driveCoils 61 = .ok (.getfield 25, 3) := by decide +kernel
theorem dX0_driveCoils_64 : decode cX0_driveCoils 64 = .ok (.iload 5, 2) := by decide +kernel
theorem dX0_driveCoils_66 : decode cX0_driveCoils 66 = .ok (.aload_n 0, 1) := by decide +kernel
theorem dX0_driveCoils_67 : decode cX0_driveCoils 67 = .ok (.getfield 9, 3) := by decide +kernel
theorem dX0_driveCoils_70 : decode cX0_driveCoils 70 = .ok (.iload_n 3, 1) := by decide +kernel
theorem dX0_driveCoils_71 : decode cX0_driveCoils 71 = .ok (.iaload, 1) := by decide +kernel
theorem dX0_driveCoils_72 : decode cX0_driveCoils 72 = .ok (.iload 4, 2) := by decide +kernel
theorem dX0_driveCoils_74 : decode cX0_driveCoils 74 = .ok (.aload_n 0, 1) := by decide +kernel
theorem dX0_driveCoils_75 : decode cX0_driveCoils 75 = .ok (.getfield 25, 3) := by decide +kernel
theorem dX0_driveCoils_78 : decode cX0_driveCoils 78 = .ok (.iload 5, 2) := by decide +kernel
theorem dX0_driveCoils_80 : decode cX0_driveCoils 80 = .ok (.iaload, 1) := by decide +kernel
theorem dX0_driveCoils_81 : decode cX0_driveCoils 81 = .ok (.invokestatic 90, 3) := by decide +kernel
theorem dX0_driveCoils_84 : decode cX0_driveCoils 84 = .ok (.iastore, 1) := by decide +kernel
theorem dX0_driveCoils_85 : decode cX0_driveCoils 85 = .ok (.iload_n 1, 1) := by decide +kernel
theorem dX0_driveCoils_86 : decode cX0_driveCoils 86 = .ok (.iload 4, 2) := by decide +kernel
theorem dX0_driveCoils_88 : decode cX0_driveCoils 88 = .ok (.iadd, 1) := by decide +kernel
theorem dX0_driveCoils_89 : decode cX0_driveCoils 89 = .ok (.istore_n 1, 1) := by decide +kernel
theorem dX0_driveCoils_90 : decode cX0_driveCoils 90 = .ok (.iinc 2 1, 3) := by decide +kernel
theorem dX0_driveCoils_93 : decode cX0_driveCoils 93 = .ok (.goto (-89), 3) := by decide +kernel
theorem dX0_driveCoils_96 : decode cX0_driveCoils 96 = .ok (.iload_n 1, 1) := by decide +kernel
theorem dX0_driveCoils_97 : decode cX0_driveCoils 97 = .ok (.ireturn, 1) := by decide +kernel
set_option maxRecDepth 20000 in
theorem ggX0_lineSteps_X0_cellAt : GoodIn wsX0_lineSteps wsX0_cellAt := goodIn_r _ [8] (by decide +kernel) (by decide +kernel)
set_option maxRecDepth 20000 in
theorem gX0_lineSteps_X0_cellAt : GoodIn wsX0_lineSteps (va_wsS RX0 58 yX0_cellAt wsX0_cellAt) := goodIn_app (goodIn_of _ (by decide +kernel)) ggX0_lineSteps_X0_cellAt
set_option maxRecDepth 20000 in
theorem ggX0_lineSteps_X0_isCoil : GoodIn wsX0_lineSteps wsX0_isCoil := goodIn_r _ [11] (by decide +kernel) (by decide +kernel)
set_option maxRecDepth 20000 in
theorem gX0_lineSteps_X0_isCoil : GoodIn wsX0_lineSteps (va_wsS RX0 55 yX0_isCoil wsX0_isCoil) := goodIn_app (goodIn_of _ (by decide +kernel)) ggX0_lineSteps_X0_isCoil
set_option maxRecDepth 20000 in
theorem ggX0_lineSteps_X0_pointAt : GoodIn wsX0_lineSteps wsX0_pointAt := goodIn_r _ [14] (by decide +kernel) (by decide +kernel)
set_option maxRecDepth 20000 in
theorem gX0_lineSteps_X0_pointAt : GoodIn wsX0_lineSteps (va_wsS RX0 62 yX0_pointAt wsX0_pointAt) := goodIn_app (goodIn_of _ (by decide +kernel)) ggX0_lineSteps_X0_pointAt
set_option maxRecDepth 20000 in
theorem ggX0_lineSteps_X0_joiningSteps : GoodIn wsX0_lineSteps wsX0_joiningSteps := goodIn_r _ [17] (by decide +kernel) (by decide +kernel)
set_option maxRecDepth 20000 in
theorem gX0_lineSteps_X0_joiningSteps : GoodIn wsX0_lineSteps (va_wsS RX0 97 yX0_joiningSteps wsX0_joiningSteps) := goodIn_app (goodIn_of _ (by decide +kernel)) ggX0_lineSteps_X0_joiningSteps
theorem dX0_lineSteps_0 : decode cX0_lineSteps 0 = .ok (.iconst 0, 1) := by decide +kernel
theorem dX0_lineSteps_1 : decode cX0_lineSteps 1 = .ok (.istore_n 2, 1) := by decide +kernel
theorem dX0_lineSteps_2 : decode cX0_lineSteps 2 = .ok (.iconst 0, 1) := by decide +kernel
theorem dX0_lineSteps_3 : decode cX0_lineSteps 3 = .ok (.istore_n 3, 1) := by decide +kernel
theorem dX0_lineSteps_4 : decode cX0_lineSteps 4 = .ok (.iconst 0, 1) := by decide +kernel
theorem dX0_lineSteps_5 : decode cX0_lineSteps 5 = .ok (.istore 4, 2) := by decide +kernel
theorem dX0_lineSteps_7 : decode cX0_lineSteps 7 = .ok (.iload 4, 2) := by decide +kernel
theorem dX0_lineSteps_9 : decode cX0_lineSteps 9 = .ok (.aload_n 0, 1) := by decide +kernel
theorem dX0_lineSteps_10 : decode cX0_lineSteps 10 = .ok (.getfield 28, 3) := by decide +kernel
theorem dX0_lineSteps_13 : decode cX0_lineSteps 13 = .ok (.if_icmp .ge 91, 3) := by decide +kernel
theorem dX0_lineSteps_16 : decode cX0_lineSteps 16 = .ok (.aload_n 0, 1) := by decide +kernel
theorem dX0_lineSteps_17 : decode cX0_lineSteps 17 = .ok (.getfield 9, 3) := by decide +kernel
theorem dX0_lineSteps_20 : decode cX0_lineSteps 20 = .ok (.iload 4, 2) := by decide +kernel
theorem dX0_lineSteps_22 : decode cX0_lineSteps 22 = .ok (.iload_n 1, 1) := by decide +kernel
theorem dX0_lineSteps_23 : decode cX0_lineSteps 23 = .ok (.iconst 1, 1) := by decide +kernel
theorem dX0_lineSteps_24 : decode cX0_lineSteps 24 = .ok (.isub, 1) := by decide +kernel
theorem dX0_lineSteps_25 : decode cX0_lineSteps 25 = .ok (.invokestatic 58, 3) := by decide +kernel
theorem dX0_lineSteps_28 : decode cX0_lineSteps 28 = .ok (.iaload, 1) := by decide +kernel
theorem dX0_lineSteps_29 : decode cX0_lineSteps 29 = .ok (.istore 5, 2) := by decide +kernel
theorem dX0_lineSteps_31 : decode cX0_lineSteps 31 = .ok (.iload 5, 2) := by decide +kernel
theorem dX0_lineSteps_33 : decode cX0_lineSteps 33 = .ok (.invokestatic 55, 3) := by decide +kernel
theorem dX0_lineSteps_36 : decode cX0_lineSteps 36 = .ok (.ifCond .eq 6, 3) := by decide +kernel
theorem dX0_lineSteps_39 : decode cX0_lineSteps 39 = .ok (.goto 59, 3) := by decide +kernel
theorem dX0_lineSteps_42 : decode cX0_lineSteps 42 = .ok (.iload 5, 2) := by decide +kernel
theorem dX0_lineSteps_44 : decode cX0_lineSteps 44 = .ok (.ifCond .eq 17, 3) := by decide +kernel
theorem dX0_lineSteps_47 : decode cX0_lineSteps 47 = .ok (.iload_n 2, 1) := by decide +kernel
theorem dX0_lineSteps_48 : decode cX0_lineSteps 48 = .ok (.iconst 1, 1) := by decide +kernel
theorem dX0_lineSteps_49 : decode cX0_lineSteps 49 = .ok (.getstatic 94, 3) := by decide +kernel
theorem dX0_lineSteps_52 : decode cX0_lineSteps 52 = .ok (.iload 5, 2) := by decide +kernel
theorem dX0_lineSteps_54 : decode cX0_lineSteps 54 = .ok (.iaload, 1) := by decide +kernel
theorem dX0_lineSteps_55 : decode cX0_lineSteps 55 = .ok (.iadd, 1) := by decide +kernel
theorem dX0_lineSteps_56 : decode cX0_lineSteps 56 = .ok (.iadd, 1) := by decide +kernel
theorem dX0_lineSteps_57 : decode cX0_lineSteps 57 = .ok (.istore_n 2, 1) := by decide +kernel
theorem dX0_lineSteps_58 : decode cX0_lineSteps 58 = .ok (.iinc 3 1, 3) := by decide +kernel
theorem dX0_lineSteps_61 : decode cX0_lineSteps 61 = .ok (.aload_n 0, 1) := by decide +kernel
theorem dX0_lineSteps_62 : decode cX0_lineSteps 62 = .ok (.getfield 19, 3) := by decide +kernel
theorem dX0_lineSteps_65 : decode cX0_lineSteps 65 = .ok (.iload 4, 2) := by decide +kernel
theorem dX0_lineSteps_67 : decode cX0_lineSteps 67 = .ok (.iload_n 1, 1) := by decide +kernel
theorem dX0_lineSteps_68 : decode cX0_lineSteps 68 = .ok (.invokestatic 62, 3) := by decide +kernel
theorem dX0_lineSteps_71 : decode cX0_lineSteps 71 = .ok (.iaload, 1) := by decide +kernel
theorem dX0_lineSteps_72 : decode cX0_lineSteps 72 = .ok (.ifCond .ne 7, 3) := by decide +kernel
theorem dX0_lineSteps_75 : decode cX0_lineSteps 75 = .ok (.iconst 1, 1) := by decide +kernel
theorem dX0_lineSteps_76 : decode cX0_lineSteps 76 = .ok (.goto 4, 3) := by decide +kernel
theorem dX0_lineSteps_79 : decode cX0_lineSteps 79 = .ok (.iconst 0, 1) := by decide +kernel
theorem dX0_lineSteps_80 : decode cX0_lineSteps 80 = .ok (.istore 6, 2) := by decide +kernel
theorem dX0_lineSteps_82 : decode cX0_lineSteps 82 = .ok (.iload 6, 2) := by decide +kernel
theorem dX0_lineSteps_84 : decode cX0_lineSteps 84 = .ok (.ifCond .eq 14, 3) := by decide +kernel
theorem dX0_lineSteps_87 : decode cX0_lineSteps 87 = .ok (.iload_n 2, 1) := by decide +kernel
theorem dX0_lineSteps_88 : decode cX0_lineSteps 88 = .ok (.iload_n 3, 1) := by decide +kernel
theorem dX0_lineSteps_89 : decode cX0_lineSteps 89 = .ok (.invokestatic 97, 3) := by decide +kernel
theorem dX0_lineSteps_92 : decode cX0_lineSteps 92 = .ok (.iconst 1, 1) := by decide +kernel
theorem dX0_lineSteps_93 : decode cX0_lineSteps 93 = .ok (.iadd, 1) := by decide +kernel
theorem dX0_lineSteps_94 : decode cX0_lineSteps 94 = .ok (.iadd, 1) := by decide +kernel
theorem dX0_lineSteps_95 : decode cX0_lineSteps 95 = .ok (.istore_n 2, 1) := by decide +kernel
theorem dX0_lineSteps_96 : decode cX0_lineSteps 96 = .ok (.iconst 0, 1) := by decide +kernel
theorem dX0_lineSteps_97 : decode cX0_lineSteps 97 = .ok (.istore_n 3, 1) := by decide +kernel
theorem dX0_lineSteps_98 : decode cX0_lineSteps 98 = .ok (.iinc 4 1, 3) := by decide +kernel
theorem dX0_lineSteps_101 : decode cX0_lineSteps 101 = .ok (.goto (-94), 3) := by decide +kernel
theorem dX0_lineSteps_104 : decode cX0_lineSteps 104 = .ok (.iload_n 2, 1) := by decide +kernel
theorem dX0_lineSteps_105 : decode cX0_lineSteps 105 = .ok (.ireturn, 1) := by decide +kernel
set_option maxRecDepth 20000 in
theorem ggX0_coilSteps_X0_cellAt : GoodIn wsX0_coilSteps wsX0_cellAt := goodIn_r _ [8] (by decide +kernel) (by decide +kernel)
set_option maxRecDepth 20000 in
theorem gX0_coilSteps_X0_cellAt : GoodIn wsX0_coilSteps (va_wsS RX0 58 yX0_cellAt wsX0_cellAt) := goodIn_app (goodIn_of _ (by decide +kernel)) ggX0_coilSteps_X0_cellAt
set_option maxRecDepth 20000 in
theorem ggX0_coilSteps_X0_isCoil : GoodIn wsX0_coilSteps wsX0_isCoil := goodIn_r _ [11] (by decide +kernel) (by decide +kernel)
set_option maxRecDepth 20000 in
theorem gX0_coilSteps_X0_isCoil : GoodIn wsX0_coilSteps (va_wsS RX0 55 yX0_isCoil wsX0_isCoil) := goodIn_app (goodIn_of _ (by decide +kernel)) ggX0_coilSteps_X0_isCoil
theorem dX0_coilSteps_0 : decode cX0_coilSteps 0 = .ok (.iconst 0, 1) := by decide +kernel
theorem dX0_coilSteps_1 : decode cX0_coilSteps 1 = .ok (.istore_n 1, 1) := by decide +kernel
theorem dX0_coilSteps_2 : decode cX0_coilSteps 2 = .ok (.iconst 0, 1) := by decide +kernel
theorem dX0_coilSteps_3 : decode cX0_coilSteps 3 = .ok (.istore_n 2, 1) := by decide +kernel
theorem dX0_coilSteps_4 : decode cX0_coilSteps 4 = .ok (.iload_n 2, 1) := by decide +kernel
theorem dX0_coilSteps_5 : decode cX0_coilSteps 5 = .ok (.aload_n 0, 1) := by decide +kernel
theorem dX0_coilSteps_6 : decode cX0_coilSteps 6 = .ok (.getfield 28, 3) := by decide +kernel
theorem dX0_coilSteps_9 : decode cX0_coilSteps 9 = .ok (.if_icmp .ge 40, 3) := by decide +kernel
theorem dX0_coilSteps_12 : decode cX0_coilSteps 12 = .ok (.aload_n 0, 1) := by decide +kernel
theorem dX0_coilSteps_13 : decode cX0_coilSteps 13 = .ok (.getfield 9, 3) := by decide +kernel
theorem dX0_coilSteps_16 : decode cX0_coilSteps 16 = .ok (.iload_n 2, 1) := by decide +kernel
theorem dX0_coilSteps_17 : decode cX0_coilSteps 17 = .ok (.aload_n 0, 1) := by decide +kernel
theorem dX0_coilSteps_18 : decode cX0_coilSteps 18 = .ok (.getfield 32, 3) := by decide +kernel
theorem dX0_coilSteps_21 : decode cX0_coilSteps 21 = .ok (.iconst 1, 1) := by decide +kernel
theorem dX0_coilSteps_22 : decode cX0_coilSteps 22 = .ok (.isub, 1) := by decide +kernel
theorem dX0_coilSteps_23 : decode cX0_coilSteps 23 = .ok (.invokestatic 58, 3) := by decide +kernel
theorem dX0_coilSteps_26 : decode cX0_coilSteps 26 = .ok (.iaload, 1) := by decide +kernel
theorem dX0_coilSteps_27 : decode cX0_coilSteps 27 = .ok (.istore_n 3, 1) := by decide +kernel
theorem dX0_coilSteps_28 : decode cX0_coilSteps 28 = .ok (.iload_n 3, 1) := by decide +kernel
theorem dX0_coilSteps_29 : decode cX0_coilSteps 29 = .ok (.invokestatic 55, 3) := by decide +kernel
theorem dX0_coilSteps_32 : decode cX0_coilSteps 32 = .ok (.ifCond .eq 11, 3) := by decide +kernel
theorem dX0_coilSteps_35 : decode cX0_coilSteps 35 = .ok (.iload_n 1, 1) := by decide +kernel
theorem dX0_coilSteps_36 : decode cX0_coilSteps 36 = .ok (.getstatic 94, 3) := by decide +kernel
theorem dX0_coilSteps_39 : decode cX0_coilSteps 39 = .ok (.iload_n 3, 1) := by decide +kernel
theorem dX0_coilSteps_40 : decode cX0_coilSteps 40 = .ok (.iaload, 1) := by decide +kernel
theorem dX0_coilSteps_41 : decode cX0_coilSteps 41 = .ok (.iadd, 1) := by decide +kernel
theorem dX0_coilSteps_42 : decode cX0_coilSteps 42 = .ok (.istore_n 1, 1) := by decide +kernel
theorem dX0_coilSteps_43 : decode cX0_coilSteps 43 = .ok (.iinc 2 1, 3) := by decide +kernel
theorem dX0_coilSteps_46 : decode cX0_coilSteps 46 = .ok (.goto (-42), 3) := by decide +kernel
theorem dX0_coilSteps_49 : decode cX0_coilSteps 49 = .ok (.iload_n 1, 1) := by decide +kernel
theorem dX0_coilSteps_50 : decode cX0_coilSteps 50 = .ok (.ireturn, 1) := by decide +kernel
theorem dX0_isRow_0 : decode cX0_isRow 0 = .ok (.iload_n 1, 1) := by decide +kernel
theorem dX0_isRow_1 : decode cX0_isRow 1 = .ok (.ifCond .lt 15, 3) := by decide +kernel
theorem dX0_isRow_4 : decode cX0_isRow 4 = .ok (.iload_n 1, 1) := by decide +kernel
theorem dX0_isRow_5 : decode cX0_isRow 5 = .ok (.aload_n 0, 1) := by decide +kernel
theorem dX0_isRow_6 : decode cX0_isRow 6 = .ok (.getfield 28, 3) := by decide +kernel
theorem dX0_isRow_9 : decode cX0_isRow 9 = .ok (.if_icmp .ge 7, 3) := by decide +kernel
theorem dX0_isRow_12 : decode cX0_isRow 12 = .ok (.iconst 1, 1) := by decide +kernel
theorem dX0_isRow_13 : decode cX0_isRow 13 = .ok (.goto 4, 3) := by decide +kernel
theorem dX0_isRow_16 : decode cX0_isRow 16 = .ok (.iconst 0, 1) := by decide +kernel
theorem dX0_isRow_17 : decode cX0_isRow 17 = .ok (.ireturn, 1) := by decide +kernel
theorem dX0_isLine_0 : decode cX0_isLine 0 = .ok (.iload_n 1, 1) := by decide +kernel
theorem dX0_isLine_1 : decode cX0_isLine 1 = .ok (.ifCond .lt 15, 3) := by decide +kernel
theorem dX0_isLine_4 : decode cX0_isLine 4 = .ok (.iload_n 1, 1) := by decide +kernel
theorem dX0_isLine_5 : decode cX0_isLine 5 = .ok (.aload_n 0, 1) := by decide +kernel
theorem dX0_isLine_6 : decode cX0_isLine 6 = .ok (.getfield 32, 3) := by decide +kernel
theorem dX0_isLine_9 : decode cX0_isLine 9 = .ok (.if_icmp .gt 7, 3) := by decide +kernel
theorem dX0_isLine_12 : decode cX0_isLine 12 = .ok (.iconst 1, 1) := by decide +kernel
theorem dX0_isLine_13 : decode cX0_isLine 13 = .ok (.goto 4, 3) := by decide +kernel
theorem dX0_isLine_16 : decode cX0_isLine 16 = .ok (.iconst 0, 1) := by decide +kernel
theorem dX0_isLine_17 : decode cX0_isLine 17 = .ok (.ireturn, 1) := by decide +kernel
theorem dX0_joiningSteps_0 : decode cX0_joiningSteps 0 = .ok (.iload_n 0, 1) := by decide +kernel
theorem dX0_joiningSteps_1 : decode cX0_joiningSteps 1 = .ok (.ifCond .ne 7, 3) := by decide +kernel
theorem dX0_joiningSteps_4 : decode cX0_joiningSteps 4 = .ok (.iconst 1, 1) := by decide +kernel
theorem dX0_joiningSteps_5 : decode cX0_joiningSteps 5 = .ok (.goto 6, 3) := by decide +kernel
theorem dX0_joiningSteps_8 : decode cX0_joiningSteps 8 = .ok (.iload_n 0, 1) := by decide +kernel
theorem dX0_joiningSteps_9 : decode cX0_joiningSteps 9 = .ok (.iconst 1, 1) := by decide +kernel
theorem dX0_joiningSteps_10 : decode cX0_joiningSteps 10 = .ok (.isub, 1) := by decide +kernel
theorem dX0_joiningSteps_11 : decode cX0_joiningSteps 11 = .ok (.ireturn, 1) := by decide +kernel
theorem dX0_letsThrough_0 : decode cX0_letsThrough 0 = .ok (.iload_n 0, 1) := by decide +kernel
theorem dX0_letsThrough_1 : decode cX0_letsThrough 1 = .ok (.tableswitch 88 1 5 #[35, 37, 48, 58, 73], 35) := by decide +kernel
theorem dX0_letsThrough_36 : decode cX0_letsThrough 36 = .ok (.iconst 1, 1) := by decide +kernel
theorem dX0_letsThrough_37 : decode cX0_letsThrough 37 = .ok (.ireturn, 1) := by decide +kernel
theorem dX0_letsThrough_38 : decode cX0_letsThrough 38 = .ok (.iload_n 1, 1) := by decide +kernel
theorem dX0_letsThrough_39 : decode cX0_letsThrough 39 = .ok (.iconst 1, 1) := by decide +kernel
theorem dX0_letsThrough_40 : decode cX0_letsThrough 40 = .ok (.if_icmp .ne 7, 3) := by decide +kernel
theorem dX0_letsThrough_43 : decode cX0_letsThrough 43 = .ok (.iconst 1, 1) := by decide +kernel
theorem dX0_letsThrough_44 : decode cX0_letsThrough 44 = .ok (.goto 4, 3) := by decide +kernel
theorem dX0_letsThrough_47 : decode cX0_letsThrough 47 = .ok (.iconst 0, 1) := by decide +kernel
theorem dX0_letsThrough_48 : decode cX0_letsThrough 48 = .ok (.ireturn, 1) := by decide +kernel
theorem dX0_letsThrough_49 : decode cX0_letsThrough 49 = .ok (.iload_n 1, 1) := by decide +kernel
theorem dX0_letsThrough_50 : decode cX0_letsThrough 50 = .ok (.ifCond .ne 7, 3) := by decide +kernel
theorem dX0_letsThrough_53 : decode cX0_letsThrough 53 = .ok (.iconst 1, 1) := by decide +kernel
theorem dX0_letsThrough_54 : decode cX0_letsThrough 54 = .ok (.goto 4, 3) := by decide +kernel
theorem dX0_letsThrough_57 : decode cX0_letsThrough 57 = .ok (.iconst 0, 1) := by decide +kernel
theorem dX0_letsThrough_58 : decode cX0_letsThrough 58 = .ok (.ireturn, 1) := by decide +kernel
theorem dX0_letsThrough_59 : decode cX0_letsThrough 59 = .ok (.iload_n 1, 1) := by decide +kernel
theorem dX0_letsThrough_60 : decode cX0_letsThrough 60 = .ok (.iconst 1, 1) := by decide +kernel
theorem dX0_letsThrough_61 : decode cX0_letsThrough 61 = .ok (.if_icmp .ne 11, 3) := by decide +kernel
theorem dX0_letsThrough_64 : decode cX0_letsThrough 64 = .ok (.iload_n 2, 1) := by decide +kernel
theorem dX0_letsThrough_65 : decode cX0_letsThrough 65 = .ok (.ifCond .ne 7, 3) := by decide +kernel
theorem dX0_letsThrough_68 : decode cX0_letsThrough 68 = .ok (.iconst 1, 1) := by decide +kernel
theorem dX0_letsThrough_69 : decode cX0_letsThrough 69 = .ok (.goto 4, 3) := by decide +kernel
theorem dX0_letsThrough_72 : decode cX0_letsThrough 72 = .ok (.iconst 0, 1) := by decide +kernel
theorem dX0_letsThrough_73 : decode cX0_letsThrough 73 = .ok (.ireturn, 1) := by decide +kernel
theorem dX0_letsThrough_74 : decode cX0_letsThrough 74 = .ok (.iload_n 1, 1) := by decide +kernel
theorem dX0_letsThrough_75 : decode cX0_letsThrough 75 = .ok (.ifCond .ne 12, 3) := by decide +kernel
theorem dX0_letsThrough_78 : decode cX0_letsThrough 78 = .ok (.iload_n 2, 1) := by decide +kernel
theorem dX0_letsThrough_79 : decode cX0_letsThrough 79 = .ok (.iconst 1, 1) := by decide +kernel
theorem dX0_letsThrough_80 : decode cX0_letsThrough 80 = .ok (.if_icmp .ne 7, 3) := by decide +kernel
theorem dX0_letsThrough_83 : decode cX0_letsThrough 83 = .ok (.iconst 1, 1) := by decide +kernel
theorem dX0_letsThrough_84 : decode cX0_letsThrough 84 = .ok (.goto 4, 3) := by decide +kernel
theorem dX0_letsThrough_87 : decode cX0_letsThrough 87 = .ok (.iconst 0, 1) := by decide +kernel
theorem dX0_letsThrough_88 : decode cX0_letsThrough 88 = .ok (.ireturn, 1) := by decide +kernel
theorem dX0_letsThrough_89 : decode cX0_letsThrough 89 = .ok (.iconst 0, 1) := by decide +kernel
theorem dX0_letsThrough_90 : decode cX0_letsThrough 90 = .ok (.ireturn, 1) := by decide +kernel
theorem dX0_coilValue_0 : decode cX0_coilValue 0 = .ok (.iload_n 0, 1) := by decide +kernel
theorem dX0_coilValue_1 : decode cX0_coilValue 1 = .ok (.tableswitch 44 6 8 #[27, 29, 33], 27) := by decide +kernel
theorem dX0_coilValue_28 : decode cX0_coilValue 28 = .ok (.iload_n 1, 1) := by decide +kernel
theorem dX0_coilValue_29 : decode cX0_coilValue 29 = .ok (.ireturn, 1) := by decide +kernel
theorem dX0_coilValue_30 : decode cX0_coilValue 30 = .ok (.iconst 1, 1) := by decide +kernel
theorem dX0_coilValue_31 : decode cX0_coilValue 31 = .ok (.iload_n 1, 1) := by decide +kernel
theorem dX0_coilValue_32 : decode cX0_coilValue 32 = .ok (.isub, 1) := by decide +kernel
theorem dX0_coilValue_33 : decode cX0_coilValue 33 = .ok (.ireturn, 1) := by decide +kernel
theorem dX0_coilValue_34 : decode cX0_coilValue 34 = .ok (.iload_n 1, 1) := by decide +kernel
theorem dX0_coilValue_35 : decode cX0_coilValue 35 = .ok (.iconst 1, 1) := by decide +kernel
theorem dX0_coilValue_36 : decode cX0_coilValue 36 = .ok (.if_icmp .ne 7, 3) := by decide +kernel
theorem dX0_coilValue_39 : decode cX0_coilValue 39 = .ok (.iconst 1, 1) := by decide +kernel
theorem dX0_coilValue_40 : decode cX0_coilValue 40 = .ok (.goto 4, 3) := by decide +kernel
theorem dX0_coilValue_43 : decode cX0_coilValue 43 = .ok (.iload_n 2, 1) := by decide +kernel
theorem dX0_coilValue_44 : decode cX0_coilValue 44 = .ok (.ireturn, 1) := by decide +kernel
theorem dX0_coilValue_45 : decode cX0_coilValue 45 = .ok (.iload_n 1, 1) := by decide +kernel
theorem dX0_coilValue_46 : decode cX0_coilValue 46 = .ok (.iconst 1, 1) := by decide +kernel
theorem dX0_coilValue_47 : decode cX0_coilValue 47 = .ok (.if_icmp .ne 7, 3) := by decide +kernel
theorem dX0_coilValue_50 : decode cX0_coilValue 50 = .ok (.iconst 0, 1) := by decide +kernel
theorem dX0_coilValue_51 : decode cX0_coilValue 51 = .ok (.goto 4, 3) := by decide +kernel
theorem dX0_coilValue_54 : decode cX0_coilValue 54 = .ok (.iload_n 2, 1) := by decide +kernel
theorem dX0_coilValue_55 : decode cX0_coilValue 55 = .ok (.ireturn, 1) := by decide +kernel
theorem dX0_isVariable_0 : decode cX0_isVariable 0 = .ok (.iload_n 0, 1) := by decide +kernel
theorem dX0_isVariable_1 : decode cX0_isVariable 1 = .ok (.ifCond .lt 13, 3) := by decide +kernel
theorem dX0_isVariable_4 : decode cX0_isVariable 4 = .ok (.iload_n 0, 1) := by decide +kernel
theorem dX0_isVariable_5 : decode cX0_isVariable 5 = .ok (.bipush 40, 2) := by decide +kernel
theorem dX0_isVariable_7 : decode cX0_isVariable 7 = .ok (.if_icmp .ge 7, 3) := by decide +kernel
theorem dX0_isVariable_10 : decode cX0_isVariable 10 = .ok (.iconst 1, 1) := by decide +kernel
theorem dX0_isVariable_11 : decode cX0_isVariable 11 = .ok (.goto 4, 3) := by decide +kernel
theorem dX0_isVariable_14 : decode cX0_isVariable 14 = .ok (.iconst 0, 1) := by decide +kernel
theorem dX0_isVariable_15 : decode cX0_isVariable 15 = .ok (.ireturn, 1) := by decide +kernel
theorem dX0_hasVariable_0 : decode cX0_hasVariable 0 = .ok (.iload_n 0, 1) := by decide +kernel
theorem dX0_hasVariable_1 : decode cX0_hasVariable 1 = .ok (.iconst 2, 1) := by decide +kernel
theorem dX0_hasVariable_2 : decode cX0_hasVariable 2 = .ok (.if_icmp .lt 7, 3) := by decide +kernel
theorem dX0_hasVariable_5 : decode cX0_hasVariable 5 = .ok (.iconst 1, 1) := by decide +kernel
theorem dX0_hasVariable_6 : decode cX0_hasVariable 6 = .ok (.goto 4, 3) := by decide +kernel
theorem dX0_hasVariable_9 : decode cX0_hasVariable 9 = .ok (.iconst 0, 1) := by decide +kernel
theorem dX0_hasVariable_10 : decode cX0_hasVariable 10 = .ok (.ireturn, 1) := by decide +kernel
theorem dX0_isCoil_0 : decode cX0_isCoil 0 = .ok (.iload_n 0, 1) := by decide +kernel
theorem dX0_isCoil_1 : decode cX0_isCoil 1 = .ok (.bipush 6, 2) := by decide +kernel
theorem dX0_isCoil_3 : decode cX0_isCoil 3 = .ok (.if_icmp .lt 7, 3) := by decide +kernel
theorem dX0_isCoil_6 : decode cX0_isCoil 6 = .ok (.iconst 1, 1) := by decide +kernel
theorem dX0_isCoil_7 : decode cX0_isCoil 7 = .ok (.goto 4, 3) := by decide +kernel
theorem dX0_isCoil_10 : decode cX0_isCoil 10 = .ok (.iconst 0, 1) := by decide +kernel
theorem dX0_isCoil_11 : decode cX0_isCoil 11 = .ok (.ireturn, 1) := by decide +kernel
theorem dX0_cellAt_0 : decode cX0_cellAt 0 = .ok (.iload_n 0, 1) := by decide +kernel
theorem dX0_cellAt_1 : decode cX0_cellAt 1 = .ok (.bipush 12, 2) := by decide +kernel
theorem dX0_cellAt_3 : decode cX0_cellAt 3 = .ok (.imul, 1) := by decide +kernel
theorem dX0_cellAt_4 : decode cX0_cellAt 4 = .ok (.iload_n 1, 1) := by decide +kernel
theorem dX0_cellAt_5 : decode cX0_cellAt 5 = .ok (.iadd, 1) := by decide +kernel
theorem dX0_cellAt_6 : decode cX0_cellAt 6 = .ok (.ireturn, 1) := by decide +kernel
theorem dX0_pointAt_0 : decode cX0_pointAt 0 = .ok (.iload_n 0, 1) := by decide +kernel
theorem dX0_pointAt_1 : decode cX0_pointAt 1 = .ok (.bipush 13, 2) := by decide +kernel
theorem dX0_pointAt_3 : decode cX0_pointAt 3 = .ok (.imul, 1) := by decide +kernel
theorem dX0_pointAt_4 : decode cX0_pointAt 4 = .ok (.iload_n 1, 1) := by decide +kernel
theorem dX0_pointAt_5 : decode cX0_pointAt 5 = .ok (.iadd, 1) := by decide +kernel
theorem dX0_pointAt_6 : decode cX0_pointAt 6 = .ok (.ireturn, 1) := by decide +kernel
set_option maxRecDepth 20000 in
theorem ggX1_init_X1_begin : GoodIn wsX1_init wsX1_begin := goodIn_r _ [17, 18, 19, 5, 6, 7, 9, 20, 21, 22, 23, 24, 25, 26, 27, 28, 29, 30] (by decide +kernel) (by decide +kernel)
set_option maxRecDepth 20000 in
theorem gX1_init_X1_begin : GoodIn wsX1_init (wsV RX1 32 RX1 yX1_begin wsX1_begin) := goodIn_app (goodIn_of _ (by decide +kernel)) ggX1_init_X1_begin
theorem dX1_init_0 : decode cX1_init 0 = .ok (.aload_n 0, 1) := by decide +kernel
theorem dX1_init_1 : decode cX1_init 1 = .ok (.invokespecial 1, 3) := by decide +kernel
theorem dX1_init_4 : decode cX1_init 4 = .ok (.aload_n 0, 1) := by decide +kernel
theorem dX1_init_5 : decode cX1_init 5 = .ok (.sipush 144, 3) := by decide +kernel
theorem dX1_init_8 : decode cX1_init 8 = .ok (.newarray .int, 2) := by decide +kernel
theorem dX1_init_10 : decode cX1_init 10 = .ok (.putfield 7, 3) := by decide +kernel
theorem dX1_init_13 : decode cX1_init 13 = .ok (.aload_n 0, 1) := by decide +kernel
theorem dX1_init_14 : decode cX1_init 14 = .ok (.sipush 144, 3) := by decide +kernel
theorem dX1_init_17 : decode cX1_init 17 = .ok (.newarray .int, 2) := by decide +kernel
theorem dX1_init_19 : decode cX1_init 19 = .ok (.putfield 13, 3) := by decide +kernel
theorem dX1_init_22 : decode cX1_init 22 = .ok (.aload_n 0, 1) := by decide +kernel
theorem dX1_init_23 : decode cX1_init 23 = .ok (.sipush 144, 3) := by decide +kernel
theorem dX1_init_26 : decode cX1_init 26 = .ok (.newarray .int, 2) := by decide +kernel
theorem dX1_init_28 : decode cX1_init 28 = .ok (.putfield 16, 3) := by decide +kernel
theorem dX1_init_31 : decode cX1_init 31 = .ok (.aload_n 0, 1) := by decide +kernel
theorem dX1_init_32 : decode cX1_init 32 = .ok (.sipush 156, 3) := by decide +kernel
theorem dX1_init_35 : decode cX1_init 35 = .ok (.newarray .boolean, 2) := by decide +kernel
theorem dX1_init_37 : decode cX1_init 37 = .ok (.putfield 19, 3) := by decide +kernel
theorem dX1_init_40 : decode cX1_init 40 = .ok (.aload_n 0, 1) := by decide +kernel
theorem dX1_init_41 : decode cX1_init 41 = .ok (.bipush 40, 2) := by decide +kernel
theorem dX1_init_43 : decode cX1_init 43 = .ok (.newarray .int, 2) := by decide +kernel
theorem dX1_init_45 : decode cX1_init 45 = .ok (.putfield 23, 3) := by decide +kernel
theorem dX1_init_48 : decode cX1_init 48 = .ok (.aload_n 0, 1) := by decide +kernel
theorem dX1_init_49 : decode cX1_init 49 = .ok (.bipush 40, 2) := by decide +kernel
theorem dX1_init_51 : decode cX1_init 51 = .ok (.newarray .int, 2) := by decide +kernel
theorem dX1_init_53 : decode cX1_init 53 = .ok (.putfield 26, 3) := by decide +kernel
theorem dX1_init_56 : decode cX1_init 56 = .ok (.aload_n 0, 1) := by decide +kernel
theorem dX1_init_57 : decode cX1_init 57 = .ok (.sipush 156, 3) := by decide +kernel
theorem dX1_init_60 : decode cX1_init 60 = .ok (.newarray .boolean, 2) := by decide +kernel
theorem dX1_init_62 : decode cX1_init 62 = .ok (.putfield 29, 3) := by decide +kernel
theorem dX1_init_65 : decode cX1_init 65 = .ok (.aload_n 0, 1) := by decide +kernel
theorem dX1_init_66 : decode cX1_init 66 = .ok (.iconst 1, 1) := by decide +kernel
theorem dX1_init_67 : decode cX1_init 67 = .ok (.iconst 1, 1) := by decide +kernel
theorem dX1_init_68 : decode cX1_init 68 = .ok (.invokevirtual 32, 3) := by decide +kernel
theorem dX1_init_71 : decode cX1_init 71 = .ok (.pop, 1) := by decide +kernel
theorem dX1_init_72 : decode cX1_init 72 = .ok (.return_, 1) := by decide +kernel
theorem dX1_isCell_0 : decode cX1_isCell 0 = .ok (.iload_n 1, 1) := by decide +kernel
theorem dX1_isCell_1 : decode cX1_isCell 1 = .ok (.ifCond .lt 27, 3) := by decide +kernel
theorem dX1_isCell_4 : decode cX1_isCell 4 = .ok (.iload_n 1, 1) := by decide +kernel
theorem dX1_isCell_5 : decode cX1_isCell 5 = .ok (.aload_n 0, 1) := by decide +kernel
theorem dX1_isCell_6 : decode cX1_isCell 6 = .ok (.getfield 36, 3) := by decide +kernel
theorem dX1_isCell_9 : decode cX1_isCell 9 = .ok (.if_icmp .ge 19, 3) := by decide +kernel
theorem dX1_isCell_12 : decode cX1_isCell 12 = .ok (.iload_n 2, 1) := by decide +kernel
theorem dX1_isCell_13 : decode cX1_isCell 13 = .ok (.ifCond .lt 15, 3) := by decide +kernel
theorem dX1_isCell_16 : decode cX1_isCell 16 = .ok (.iload_n 2, 1) := by decide +kernel
theorem dX1_isCell_17 : decode cX1_isCell 17 = .ok (.aload_n 0, 1) := by decide +kernel
theorem dX1_isCell_18 : decode cX1_isCell 18 = .ok (.getfield 40, 3) := by decide +kernel
theorem dX1_isCell_21 : decode cX1_isCell 21 = .ok (.if_icmp .ge 7, 3) := by decide +kernel
theorem dX1_isCell_24 : decode cX1_isCell 24 = .ok (.iconst 1, 1) := by decide +kernel
theorem dX1_isCell_25 : decode cX1_isCell 25 = .ok (.goto 4, 3) := by decide +kernel
theorem dX1_isCell_28 : decode cX1_isCell 28 = .ok (.iconst 0, 1) := by decide +kernel
theorem dX1_isCell_29 : decode cX1_isCell 29 = .ok (.ireturn, 1) := by decide +kernel
theorem dX1_isVariable_0 : decode cX1_isVariable 0 = .ok (.iload_n 0, 1) := by decide +kernel
theorem dX1_isVariable_1 : decode cX1_isVariable 1 = .ok (.ifCond .lt 13, 3) := by decide +kernel
theorem dX1_isVariable_4 : decode cX1_isVariable 4 = .ok (.iload_n 0, 1) := by decide +kernel
theorem dX1_isVariable_5 : decode cX1_isVariable 5 = .ok (.bipush 40, 2) := by decide +kernel
theorem dX1_isVariable_7 : decode cX1_isVariable 7 = .ok (.if_icmp .ge 7, 3) := by decide +kernel
theorem dX1_isVariable_10 : decode cX1_isVariable 10 = .ok (.iconst 1, 1) := by decide +kernel
theorem dX1_isVariable_11 : decode cX1_isVariable 11 = .ok (.goto 4, 3) := by decide +kernel
theorem dX1_isVariable_14 : decode cX1_isVariable 14 = .ok (.iconst 0, 1) := by decide +kernel
theorem dX1_isVariable_15 : decode cX1_isVariable 15 = .ok (.ireturn, 1) := by decide +kernel
theorem dX1_begin_0 : decode cX1_begin 0 = .ok (.iload_n 1, 1) := by decide +kernel
theorem dX1_begin_1 : decode cX1_begin 1 = .ok (.iconst 1, 1) := by decide +kernel
theorem dX1_begin_2 : decode cX1_begin 2 = .ok (.if_icmp .lt 20, 3) := by decide +kernel
theorem dX1_begin_5 : decode cX1_begin 5 = .ok (.iload_n 1, 1) := by decide +kernel
theorem dX1_begin_6 : decode cX1_begin 6 = .ok (.bipush 12, 2) := by decide +kernel
theorem dX1_begin_8 : decode cX1_begin 8 = .ok (.if_icmp .gt 14, 3) := by decide +kernel
theorem dX1_begin_11 : decode cX1_begin 11 = .ok (.iload_n 2, 1) := by decide +kernel
theorem dX1_begin_12 : decode cX1_begin 12 = .ok (.iconst 1, 1) := by decide +kernel
theorem dX1_begin_13 : decode cX1_begin 13 = .ok (.if_icmp .lt 9, 3) := by decide +kernel
theorem dX1_begin_16 : decode cX1_begin 16 = .ok (.iload_n 2, 1) := by decide +kernel
theorem dX1_begin_17 : decode cX1_begin 17 = .ok (.bipush 12, 2) := by decide +kernel
theorem dX1_begin_19 : decode cX1_begin 19 = .ok (.if_icmp .le 5, 3) := by decide +kernel
theorem dX1_begin_22 : decode cX1_begin 22 = .ok (.iconst (-1), 1) := by decide +kernel
theorem dX1_begin_23 : decode cX1_begin 23 = .ok (.ireturn, 1) := by decide +kernel
theorem dX1_begin_24 : decode cX1_begin 24 = .ok (.aload_n 0, 1) := by decide +kernel
theorem dX1_begin_25 : decode cX1_begin 25 = .ok (.iload_n 1, 1) := by decide +kernel
theorem dX1_begin_26 : decode cX1_begin 26 = .ok (.putfield 36, 3) := by decide +kernel
theorem dX1_begin_29 : decode cX1_begin 29 = .ok (.aload_n 0, 1) := by decide +kernel
theorem dX1_begin_30 : decode cX1_begin 30 = .ok (.iload_n 2, 1) := by decide +kernel
theorem dX1_begin_31 : decode cX1_begin 31 = .ok (.putfield 40, 3) := by decide +kernel
theorem dX1_begin_34 : decode cX1_begin 34 = .ok (.iconst 0, 1) := by decide +kernel
end
section
theorem dX1_begin_35 : decode cX1_begin 35 = .ok (.istore_n 3, 1) := by decide +kernel
theorem dX1_begin_36 : decode cX1_begin 36 = .ok (.iload_n 3, 1) := by decide +kernel
theorem dX1_begin_37 : decode cX1_begin 37 = .ok (.sipush 144, 3) := by decide +kernel
theorem dX1_begin_40 : decode cX1_begin 40 = .ok (.if_icmp .ge 30, 3) := by decide +kernel
theorem dX1_begin_43 : decode cX1_begin 43 = .ok (.aload_n 0, 1) := by decide +kernel
theorem dX1_begin_44 : decode cX1_begin 44 = .ok (.getfield 7, 3) := by decide +kernel
theorem dX1_begin_47 : decode cX1_begin 47 = .ok (.iload_n 3, 1) := by decide +kernel
theorem dX1_begin_48 : decode cX1_begin 48 = .ok (.iconst 0, 1) := by decide +kernel
theorem dX1_begin_49 : decode cX1_begin 49 = .ok (.iastore, 1) := by decide +kernel
theorem dX1_begin_50 : decode cX1_begin 50 = .ok (.aload_n 0, 1) := by decide +kernel
theorem dX1_begin_51 : decode cX1_begin 51 = .ok (.getfield 13, 3) := by decide +kernel
theorem dX1_begin_54 : decode cX1_begin 54 = .ok (.iload_n 3, 1) := by decide +kernel
theorem dX1_begin_55 : decode cX1_begin 55 = .ok (.iconst 0, 1) := by decide +kernel
theorem dX1_begin_56 : decode cX1_begin 56 = .ok (.iastore, 1) := by decide +kernel
theorem dX1_begin_57 : decode cX1_begin 57 = .ok (.aload_n 0, 1) := by decide +kernel
theorem dX1_begin_58 : decode cX1_begin 58 = .ok (.getfield 16, 3) := by decide +kernel
theorem dX1_begin_61 : decode cX1_begin 61 = .ok (.iload_n 3, 1) := by decide +kernel
theorem dX1_begin_62 : decode cX1_begin 62 = .ok (.iconst 0, 1) := by decide +kernel
theorem dX1_begin_63 : decode cX1_begin 63 = .ok (.iastore, 1) := by decide +kernel
theorem dX1_begin_64 : decode cX1_begin 64 = .ok (.iinc 3 1, 3) := by decide +kernel
theorem dX1_begin_67 : decode cX1_begin 67 = .ok (.goto (-31), 3) := by decide +kernel
theorem dX1_begin_70 : decode cX1_begin 70 = .ok (.iconst 0, 1) := by decide +kernel
theorem dX1_begin_71 : decode cX1_begin 71 = .ok (.istore_n 3, 1) := by decide +kernel
theorem dX1_begin_72 : decode cX1_begin 72 = .ok (.iload_n 3, 1) := by decide +kernel
theorem dX1_begin_73 : decode cX1_begin 73 = .ok (.sipush 156, 3) := by decide +kernel
theorem dX1_begin_76 : decode cX1_begin 76 = .ok (.if_icmp .ge 16, 3) := by decide +kernel
theorem dX1_begin_79 : decode cX1_begin 79 = .ok (.aload_n 0, 1) := by decide +kernel
theorem dX1_begin_80 : decode cX1_begin 80 = .ok (.getfield 19, 3) := by decide +kernel
theorem dX1_begin_83 : decode cX1_begin 83 = .ok (.iload_n 3, 1) := by decide +kernel
theorem dX1_begin_84 : decode cX1_begin 84 = .ok (.iconst 0, 1) := by decide +kernel
theorem dX1_begin_85 : decode cX1_begin 85 = .ok (.bastore, 1) := by decide +kernel
theorem dX1_begin_86 : decode cX1_begin 86 = .ok (.iinc 3 1, 3) := by decide +kernel
theorem dX1_begin_89 : decode cX1_begin 89 = .ok (.goto (-17), 3) := by decide +kernel
theorem dX1_begin_92 : decode cX1_begin 92 = .ok (.aload_n 0, 1) := by decide +kernel
theorem dX1_begin_93 : decode cX1_begin 93 = .ok (.iconst 0, 1) := by decide +kernel
theorem dX1_begin_94 : decode cX1_begin 94 = .ok (.putfield 43, 3) := by decide +kernel
theorem dX1_begin_97 : decode cX1_begin 97 = .ok (.iconst 0, 1) := by decide +kernel
theorem dX1_begin_98 : decode cX1_begin 98 = .ok (.ireturn, 1) := by decide +kernel
set_option maxRecDepth 20000 in
theorem ggX1_cell_X1_isCell : GoodIn wsX1_cell wsX1_isCell := goodIn_r _ [10, 11, 1, 15, 16, 17, 18, 19, 20, 21, 22, 23, 24] (by decide +kernel) (by decide +kernel)
set_option maxRecDepth 20000 in
theorem gX1_cell_X1_isCell : GoodIn wsX1_cell (wsV RX1 47 RX1 yX1_isCell wsX1_isCell) := goodIn_app (goodIn_of _ (by decide +kernel)) ggX1_cell_X1_isCell
set_option maxRecDepth 20000 in
theorem ggX1_cell_X1_isVariable : GoodIn wsX1_cell wsX1_isVariable := goodIn_r _ [14] (by decide +kernel) (by decide +kernel)
set_option maxRecDepth 20000 in
theorem gX1_cell_X1_isVariable : GoodIn wsX1_cell (va_wsS RX1 51 yX1_isVariable wsX1_isVariable) := goodIn_app (goodIn_of _ (by decide +kernel)) ggX1_cell_X1_isVariable
theorem dX1_cell_0 : decode cX1_cell 0 = .ok (.aload_n 0, 1) := by decide +kernel
theorem dX1_cell_1 : decode cX1_cell 1 = .ok (.iload_n 1, 1) := by decide +kernel
theorem dX1_cell_2 : decode cX1_cell 2 = .ok (.iload_n 2, 1) := by decide +kernel
theorem dX1_cell_3 : decode cX1_cell 3 = .ok (.invokevirtual 47, 3) := by decide +kernel
theorem dX1_cell_6 : decode cX1_cell 6 = .ok (.ifCond .eq 42, 3) := by decide +kernel
theorem dX1_cell_9 : decode cX1_cell 9 = .ok (.iload_n 3, 1) := by decide +kernel
theorem dX1_cell_10 : decode cX1_cell 10 = .ok (.ifCond .lt 38, 3) := by decide +kernel
theorem dX1_cell_13 : decode cX1_cell 13 = .ok (.iload_n 3, 1) := by decide +kernel
theorem dX1_cell_14 : decode cX1_cell 14 = .ok (.bipush 9, 2) := by decide +kernel
theorem dX1_cell_16 : decode cX1_cell 16 = .ok (.if_icmp .gt 32, 3) := by decide +kernel
theorem dX1_cell_19 : decode cX1_cell 19 = .ok (.iload_n 3, 1) := by decide +kernel
theorem dX1_cell_20 : decode cX1_cell 20 = .ok (.iconst 1, 1) := by decide +kernel
theorem dX1_cell_21 : decode cX1_cell 21 = .ok (.if_icmp .le 11, 3) := by decide +kernel
theorem dX1_cell_24 : decode cX1_cell 24 = .ok (.iload 4, 2) := by decide +kernel
theorem dX1_cell_26 : decode cX1_cell 26 = .ok (.invokestatic 51, 3) := by decide +kernel
theorem dX1_cell_29 : decode cX1_cell 29 = .ok (.ifCond .eq 19, 3) := by decide +kernel
theorem dX1_cell_32 : decode cX1_cell 32 = .ok (.iload_n 3, 1) := by decide +kernel
theorem dX1_cell_33 : decode cX1_cell 33 = .ok (.bipush 6, 2) := by decide +kernel
theorem dX1_cell_35 : decode cX1_cell 35 = .ok (.if_icmp .lt 15, 3) := by decide +kernel
theorem dX1_cell_38 : decode cX1_cell 38 = .ok (.iload_n 2, 1) := by decide +kernel
theorem dX1_cell_39 : decode cX1_cell 39 = .ok (.aload_n 0, 1) := by decide +kernel
theorem dX1_cell_40 : decode cX1_cell 40 = .ok (.getfield 40, 3) := by decide +kernel
theorem dX1_cell_43 : decode cX1_cell 43 = .ok (.iconst 1, 1) := by decide +kernel
theorem dX1_cell_44 : decode cX1_cell 44 = .ok (.isub, 1) := by decide +kernel
theorem dX1_cell_45 : decode cX1_cell 45 = .ok (.if_icmp .eq 5, 3) := by decide +kernel
theorem dX1_cell_48 : decode cX1_cell 48 = .ok (.iconst (-1), 1) := by decide +kernel
theorem dX1_cell_49 : decode cX1_cell 49 = .ok (.ireturn, 1) := by decide +kernel
theorem dX1_cell_50 : decode cX1_cell 50 = .ok (.bipush 12, 2) := by decide +kernel
theorem dX1_cell_52 : decode cX1_cell 52 = .ok (.iload_n 1, 1) := by decide +kernel
theorem dX1_cell_53 : decode cX1_cell 53 = .ok (.imul, 1) := by decide +kernel
theorem dX1_cell_54 : decode cX1_cell 54 = .ok (.iload_n 2, 1) := by decide +kernel
theorem dX1_cell_55 : decode cX1_cell 55 = .ok (.iadd, 1) := by decide +kernel
theorem dX1_cell_56 : decode cX1_cell 56 = .ok (.istore 5, 2) := by decide +kernel
theorem dX1_cell_58 : decode cX1_cell 58 = .ok (.aload_n 0, 1) := by decide +kernel
theorem dX1_cell_59 : decode cX1_cell 59 = .ok (.getfield 7, 3) := by decide +kernel
theorem dX1_cell_62 : decode cX1_cell 62 = .ok (.iload 5, 2) := by decide +kernel
theorem dX1_cell_64 : decode cX1_cell 64 = .ok (.iaload, 1) := by decide +kernel
theorem dX1_cell_65 : decode cX1_cell 65 = .ok (.istore 6, 2) := by decide +kernel
theorem dX1_cell_67 : decode cX1_cell 67 = .ok (.aload_n 0, 1) := by decide +kernel
theorem dX1_cell_68 : decode cX1_cell 68 = .ok (.getfield 7, 3) := by decide +kernel
theorem dX1_cell_71 : decode cX1_cell 71 = .ok (.iload 5, 2) := by decide +kernel
theorem dX1_cell_73 : decode cX1_cell 73 = .ok (.iload_n 3, 1) := by decide +kernel
theorem dX1_cell_74 : decode cX1_cell 74 = .ok (.iastore, 1) := by decide +kernel
theorem dX1_cell_75 : decode cX1_cell 75 = .ok (.aload_n 0, 1) := by decide +kernel
theorem dX1_cell_76 : decode cX1_cell 76 = .ok (.getfield 13, 3) := by decide +kernel
theorem dX1_cell_79 : decode cX1_cell 79 = .ok (.iload 5, 2) := by decide +kernel
theorem dX1_cell_81 : decode cX1_cell 81 = .ok (.iload_n 3, 1) := by decide +kernel
theorem dX1_cell_82 : decode cX1_cell 82 = .ok (.iconst 1, 1) := by decide +kernel
theorem dX1_cell_83 : decode cX1_cell 83 = .ok (.if_icmp .le 8, 3) := by decide +kernel
theorem dX1_cell_86 : decode cX1_cell 86 = .ok (.iload 4, 2) := by decide +kernel
theorem dX1_cell_88 : decode cX1_cell 88 = .ok (.goto 4, 3) := by decide +kernel
theorem dX1_cell_91 : decode cX1_cell 91 = .ok (.iconst 0, 1) := by decide +kernel
theorem dX1_cell_92 : decode cX1_cell 92 = .ok (.iastore, 1) := by decide +kernel
theorem dX1_cell_93 : decode cX1_cell 93 = .ok (.aload_n 0, 1) := by decide +kernel
theorem dX1_cell_94 : decode cX1_cell 94 = .ok (.getfield 16, 3) := by decide +kernel
theorem dX1_cell_97 : decode cX1_cell 97 = .ok (.iload 5, 2) := by decide +kernel
theorem dX1_cell_99 : decode cX1_cell 99 = .ok (.iconst 0, 1) := by decide +kernel
theorem dX1_cell_100 : decode cX1_cell 100 = .ok (.iastore, 1) := by decide +kernel
theorem dX1_cell_101 : decode cX1_cell 101 = .ok (.aload_n 0, 1) := by decide +kernel
theorem dX1_cell_102 : decode cX1_cell 102 = .ok (.iconst 0, 1) := by decide +kernel
theorem dX1_cell_103 : decode cX1_cell 103 = .ok (.putfield 43, 3) := by decide +kernel
theorem dX1_cell_106 : decode cX1_cell 106 = .ok (.iload 6, 2) := by decide +kernel
theorem dX1_cell_108 : decode cX1_cell 108 = .ok (.ireturn, 1) := by decide +kernel
theorem dX1_link_0 : decode cX1_link 0 = .ok (.iload_n 1, 1) := by decide +kernel
theorem dX1_link_1 : decode cX1_link 1 = .ok (.ifCond .lt 26, 3) := by decide +kernel
theorem dX1_link_4 : decode cX1_link 4 = .ok (.iload_n 1, 1) := by decide +kernel
theorem dX1_link_5 : decode cX1_link 5 = .ok (.aload_n 0, 1) := by decide +kernel
theorem dX1_link_6 : decode cX1_link 6 = .ok (.getfield 36, 3) := by decide +kernel
theorem dX1_link_9 : decode cX1_link 9 = .ok (.iconst 1, 1) := by decide +kernel
theorem dX1_link_10 : decode cX1_link 10 = .ok (.isub, 1) := by decide +kernel
theorem dX1_link_11 : decode cX1_link 11 = .ok (.if_icmp .ge 16, 3) := by decide +kernel
theorem dX1_link_14 : decode cX1_link 14 = .ok (.iload_n 2, 1) := by decide +kernel
theorem dX1_link_15 : decode cX1_link 15 = .ok (.iconst 1, 1) := by decide +kernel
theorem dX1_link_16 : decode cX1_link 16 = .ok (.if_icmp .lt 11, 3) := by decide +kernel
theorem dX1_link_19 : decode cX1_link 19 = .ok (.iload_n 2, 1) := by decide +kernel
theorem dX1_link_20 : decode cX1_link 20 = .ok (.aload_n 0, 1) := by decide +kernel
theorem dX1_link_21 : decode cX1_link 21 = .ok (.getfield 40, 3) := by decide +kernel
theorem dX1_link_24 : decode cX1_link 24 = .ok (.if_icmp .lt 5, 3) := by decide +kernel
theorem dX1_link_27 : decode cX1_link 27 = .ok (.iconst (-1), 1) := by decide +kernel
theorem dX1_link_28 : decode cX1_link 28 = .ok (.ireturn, 1) := by decide +kernel
theorem dX1_link_29 : decode cX1_link 29 = .ok (.bipush 13, 2) := by decide +kernel
theorem dX1_link_31 : decode cX1_link 31 = .ok (.iload_n 1, 1) := by decide +kernel
theorem dX1_link_32 : decode cX1_link 32 = .ok (.imul, 1) := by decide +kernel
theorem dX1_link_33 : decode cX1_link 33 = .ok (.iload_n 2, 1) := by decide +kernel
theorem dX1_link_34 : decode cX1_link 34 = .ok (.iadd, 1) := by decide +kernel
theorem dX1_link_35 : decode cX1_link 35 = .ok (.istore 4, 2) := by decide +kernel
theorem dX1_link_37 : decode cX1_link 37 = .ok (.aload_n 0, 1) := by decide +kernel
theorem dX1_link_38 : decode cX1_link 38 = .ok (.getfield 19, 3) := by decide +kernel
theorem dX1_link_41 : decode cX1_link 41 = .ok (.iload 4, 2) := by decide +kernel
theorem dX1_link_43 : decode cX1_link 43 = .ok (.baload, 1) := by decide +kernel
theorem dX1_link_44 : decode cX1_link 44 = .ok (.istore 5, 2) := by decide +kernel
theorem dX1_link_46 : decode cX1_link 46 = .ok (.aload_n 0, 1) := by decide +kernel
theorem dX1_link_47 : decode cX1_link 47 = .ok (.getfield 19, 3) := by decide +kernel
theorem dX1_link_50 : decode cX1_link 50 = .ok (.iload 4, 2) := by decide +kernel
theorem dX1_link_52 : decode cX1_link 52 = .ok (.iload_n 3, 1) := by decide +kernel
theorem dX1_link_53 : decode cX1_link 53 = .ok (.bastore, 1) := by decide +kernel
theorem dX1_link_54 : decode cX1_link 54 = .ok (.aload_n 0, 1) := by decide +kernel
theorem dX1_link_55 : decode cX1_link 55 = .ok (.iconst 0, 1) := by decide +kernel
theorem dX1_link_56 : decode cX1_link 56 = .ok (.putfield 43, 3) := by decide +kernel
theorem dX1_link_59 : decode cX1_link 59 = .ok (.iload 5, 2) := by decide +kernel
theorem dX1_link_61 : decode cX1_link 61 = .ok (.ifCond .eq 7, 3) := by decide +kernel
theorem dX1_link_64 : decode cX1_link 64 = .ok (.iconst 1, 1) := by decide +kernel
theorem dX1_link_65 : decode cX1_link 65 = .ok (.goto 4, 3) := by decide +kernel
theorem dX1_link_68 : decode cX1_link 68 = .ok (.iconst 0, 1) := by decide +kernel
theorem dX1_link_69 : decode cX1_link 69 = .ok (.ireturn, 1) := by decide +kernel
set_option maxRecDepth 20000 in
theorem ggX1_set_X1_isVariable : GoodIn wsX1_set wsX1_isVariable := goodIn_r _ [5] (by decide +kernel) (by decide +kernel)
set_option maxRecDepth 20000 in
theorem gX1_set_X1_isVariable : GoodIn wsX1_set (va_wsS RX1 51 yX1_isVariable wsX1_isVariable) := goodIn_app (goodIn_of _ (by decide +kernel)) ggX1_set_X1_isVariable
theorem dX1_set_0 : decode cX1_set 0 = .ok (.iload_n 1, 1) := by decide +kernel
theorem dX1_set_1 : decode cX1_set 1 = .ok (.invokestatic 51, 3) := by decide +kernel
theorem dX1_set_4 : decode cX1_set 4 = .ok (.ifCond .eq 12, 3) := by decide +kernel
theorem dX1_set_7 : decode cX1_set 7 = .ok (.iload_n 2, 1) := by decide +kernel
theorem dX1_set_8 : decode cX1_set 8 = .ok (.ifCond .lt 8, 3) := by decide +kernel
theorem dX1_set_11 : decode cX1_set 11 = .ok (.iload_n 2, 1) := by decide +kernel
theorem dX1_set_12 : decode cX1_set 12 = .ok (.iconst 1, 1) := by decide +kernel
theorem dX1_set_13 : decode cX1_set 13 = .ok (.if_icmp .le 5, 3) := by decide +kernel
theorem dX1_set_16 : decode cX1_set 16 = .ok (.iconst (-1), 1) := by decide +kernel
theorem dX1_set_17 : decode cX1_set 17 = .ok (.ireturn, 1) := by decide +kernel
theorem dX1_set_18 : decode cX1_set 18 = .ok (.aload_n 0, 1) := by decide +kernel
theorem dX1_set_19 : decode cX1_set 19 = .ok (.getfield 23, 3) := by decide +kernel
theorem dX1_set_22 : decode cX1_set 22 = .ok (.iload_n 1, 1) := by decide +kernel
theorem dX1_set_23 : decode cX1_set 23 = .ok (.iaload, 1) := by decide +kernel
theorem dX1_set_24 : decode cX1_set 24 = .ok (.istore_n 3, 1) := by decide +kernel
theorem dX1_set_25 : decode cX1_set 25 = .ok (.aload_n 0, 1) := by decide +kernel
theorem dX1_set_26 : decode cX1_set 26 = .ok (.getfield 23, 3) := by decide +kernel
theorem dX1_set_29 : decode cX1_set 29 = .ok (.iload_n 1, 1) := by decide +kernel
theorem dX1_set_30 : decode cX1_set 30 = .ok (.iload_n 2, 1) := by decide +kernel
theorem dX1_set_31 : decode cX1_set 31 = .ok (.iastore, 1) := by decide +kernel
theorem dX1_set_32 : decode cX1_set 32 = .ok (.iload_n 3, 1) := by decide +kernel
theorem dX1_set_33 : decode cX1_set 33 = .ok (.ireturn, 1) := by decide +kernel
set_option maxRecDepth 20000 in
theorem ggX1_get_X1_isVariable : GoodIn wsX1_get wsX1_isVariable := goodIn_r _ [5] (by decide +kernel) (by decide +kernel)
set_option maxRecDepth 20000 in
theorem gX1_get_X1_isVariable : GoodIn wsX1_get (va_wsS RX1 51 yX1_isVariable wsX1_isVariable) := goodIn_app (goodIn_of _ (by decide +kernel)) ggX1_get_X1_isVariable
theorem dX1_get_0 : decode cX1_get 0 = .ok (.iload_n 1, 1) := by decide +kernel
theorem dX1_get_1 : decode cX1_get 1 = .ok (.invokestatic 51, 3) := by decide +kernel
theorem dX1_get_4 : decode cX1_get 4 = .ok (.ifCond .eq 12, 3) := by decide +kernel
theorem dX1_get_7 : decode cX1_get 7 = .ok (.aload_n 0, 1) := by decide +kernel
theorem dX1_get_8 : decode cX1_get 8 = .ok (.getfield 23, 3) := by decide +kernel
theorem dX1_get_11 : decode cX1_get 11 = .ok (.iload_n 1, 1) := by decide +kernel
theorem dX1_get_12 : decode cX1_get 12 = .ok (.iaload, 1) := by decide +kernel
theorem dX1_get_13 : decode cX1_get 13 = .ok (.goto 4, 3) := by decide +kernel
theorem dX1_get_16 : decode cX1_get 16 = .ok (.iconst (-1), 1) := by decide +kernel
theorem dX1_get_17 : decode cX1_get 17 = .ok (.ireturn, 1) := by decide +kernel
theorem dX1_lets_0 : decode cX1_lets 0 = .ok (.aload_n 0, 1) := by decide +kernel
theorem dX1_lets_1 : decode cX1_lets 1 = .ok (.getfield 26, 3) := by decide +kernel
theorem dX1_lets_4 : decode cX1_lets 4 = .ok (.aload_n 0, 1) := by decide +kernel
theorem dX1_lets_5 : decode cX1_lets 5 = .ok (.getfield 13, 3) := by decide +kernel
theorem dX1_lets_8 : decode cX1_lets 8 = .ok (.iload_n 1, 1) := by decide +kernel
theorem dX1_lets_9 : decode cX1_lets 9 = .ok (.iaload, 1) := by decide +kernel
theorem dX1_lets_10 : decode cX1_lets 10 = .ok (.iaload, 1) := by decide +kernel
theorem dX1_lets_11 : decode cX1_lets 11 = .ok (.istore_n 2, 1) := by decide +kernel
theorem dX1_lets_12 : decode cX1_lets 12 = .ok (.aload_n 0, 1) := by decide +kernel
theorem dX1_lets_13 : decode cX1_lets 13 = .ok (.getfield 7, 3) := by decide +kernel
theorem dX1_lets_16 : decode cX1_lets 16 = .ok (.iload_n 1, 1) := by decide +kernel
theorem dX1_lets_17 : decode cX1_lets 17 = .ok (.iaload, 1) := by decide +kernel
theorem dX1_lets_18 : decode cX1_lets 18 = .ok (.tableswitch 97 1 5 #[34, 36, 47, 57, 77], 34) := by decide +kernel
theorem dX1_lets_52 : decode cX1_lets 52 = .ok (.iconst 1, 1) := by decide +kernel
theorem dX1_lets_53 : decode cX1_lets 53 = .ok (.ireturn, 1) := by decide +kernel
theorem dX1_lets_54 : decode cX1_lets 54 = .ok (.iload_n 2, 1) := by decide +kernel
theorem dX1_lets_55 : decode cX1_lets 55 = .ok (.iconst 1, 1) := by decide +kernel
theorem dX1_lets_56 : decode cX1_lets 56 = .ok (.if_icmp .ne 7, 3) := by decide +kernel
theorem dX1_lets_59 : decode cX1_lets 59 = .ok (.iconst 1, 1) := by decide +kernel
theorem dX1_lets_60 : decode cX1_lets 60 = .ok (.goto 4, 3) := by decide +kernel
theorem dX1_lets_63 : decode cX1_lets 63 = .ok (.iconst 0, 1) := by decide +kernel
theorem dX1_lets_64 : decode cX1_lets 64 = .ok (.ireturn, 1) := by decide +kernel
theorem dX1_lets_65 : decode cX1_lets 65 = .ok (.iload_n 2, 1) := by decide +kernel
theorem dX1_lets_66 : decode cX1_lets 66 = .ok (.ifCond .ne 7, 3) := by decide +kernel
theorem dX1_lets_69 : decode cX1_lets 69 = .ok (.iconst 1, 1) := by decide +kernel
theorem dX1_lets_70 : decode cX1_lets 70 = .ok (.goto 4, 3) := by decide +kernel
theorem dX1_lets_73 : decode cX1_lets 73 = .ok (.iconst 0, 1) := by decide +kernel
theorem dX1_lets_74 : decode cX1_lets 74 = .ok (.ireturn, 1) := by decide +kernel
theorem dX1_lets_75 : decode cX1_lets 75 = .ok (.iload_n 2, 1) := by decide +kernel
theorem dX1_lets_76 : decode cX1_lets 76 = .ok (.iconst 1, 1) := by decide +kernel
theorem dX1_lets_77 : decode cX1_lets 77 = .ok (.if_icmp .ne 16, 3) := by decide +kernel
theorem dX1_lets_80 : decode cX1_lets 80 = .ok (.aload_n 0, 1) := by decide +kernel
theorem dX1_lets_81 : decode cX1_lets 81 = .ok (.getfield 16, 3) := by decide +kernel
theorem dX1_lets_84 : decode cX1_lets 84 = .ok (.iload_n 1, 1) := by decide +kernel
theorem dX1_lets_85 : decode cX1_lets 85 = .ok (.iaload, 1) := by decide +kernel
theorem dX1_lets_86 : decode cX1_lets 86 = .ok (.ifCond .ne 7, 3) := by decide +kernel
theorem dX1_lets_89 : decode cX1_lets 89 = .ok (.iconst 1, 1) := by decide +kernel
theorem dX1_lets_90 : decode cX1_lets 90 = .ok (.goto 4, 3) := by decide +kernel
theorem dX1_lets_93 : decode cX1_lets 93 = .ok (.iconst 0, 1) := by decide +kernel
theorem dX1_lets_94 : decode cX1_lets 94 = .ok (.ireturn, 1) := by decide +kernel
theorem dX1_lets_95 : decode cX1_lets 95 = .ok (.iload_n 2, 1) := by decide +kernel
theorem dX1_lets_96 : decode cX1_lets 96 = .ok (.ifCond .ne 17, 3) := by decide +kernel
theorem dX1_lets_99 : decode cX1_lets 99 = .ok (.aload_n 0, 1) := by decide +kernel
theorem dX1_lets_100 : decode cX1_lets 100 = .ok (.getfield 16, 3) := by decide +kernel
theorem dX1_lets_103 : decode cX1_lets 103 = .ok (.iload_n 1, 1) := by decide +kernel
theorem dX1_lets_104 : decode cX1_lets 104 = .ok (.iaload, 1) := by decide +kernel
theorem dX1_lets_105 : decode cX1_lets 105 = .ok (.iconst 1, 1) := by decide +kernel
theorem dX1_lets_106 : decode cX1_lets 106 = .ok (.if_icmp .ne 7, 3) := by decide +kernel
theorem dX1_lets_109 : decode cX1_lets 109 = .ok (.iconst 1, 1) := by decide +kernel
theorem dX1_lets_110 : decode cX1_lets 110 = .ok (.goto 4, 3) := by decide +kernel
theorem dX1_lets_113 : decode cX1_lets 113 = .ok (.iconst 0, 1) := by decide +kernel
theorem dX1_lets_114 : decode cX1_lets 114 = .ok (.ireturn, 1) := by decide +kernel
theorem dX1_lets_115 : decode cX1_lets 115 = .ok (.iconst 0, 1) := by decide +kernel
theorem dX1_lets_116 : decode cX1_lets 116 = .ok (.ireturn, 1) := by decide +kernel
theorem dX1_spread_0 : decode cX1_spread 0 = .ok (.iconst 0, 1) := by decide +kernel
theorem dX1_spread_1 : decode cX1_spread 1 = .ok (.istore_n 2, 1) := by decide +kernel
theorem dX1_spread_2 : decode cX1_spread 2 = .ok (.iload_n 2, 1) := by decide +kernel
theorem dX1_spread_3 : decode cX1_spread 3 = .ok (.iconst 1, 1) := by decide +kernel
theorem dX1_spread_4 : decode cX1_spread 4 = .ok (.iadd, 1) := by decide +kernel
theorem dX1_spread_5 : decode cX1_spread 5 = .ok (.aload_n 0, 1) := by decide +kernel
theorem dX1_spread_6 : decode cX1_spread 6 = .ok (.getfield 36, 3) := by decide +kernel
theorem dX1_spread_9 : decode cX1_spread 9 = .ok (.if_icmp .ge 52, 3) := by decide +kernel
theorem dX1_spread_12 : decode cX1_spread 12 = .ok (.aload_n 0, 1) := by decide +kernel
theorem dX1_spread_13 : decode cX1_spread 13 = .ok (.getfield 19, 3) := by decide +kernel
theorem dX1_spread_16 : decode cX1_spread 16 = .ok (.bipush 13, 2) := by decide +kernel
theorem dX1_spread_18 : decode cX1_spread 18 = .ok (.iload_n 2, 1) := by decide +kernel
theorem dX1_spread_19 : decode cX1_spread 19 = .ok (.imul, 1) := by decide +kernel
theorem dX1_spread_20 : decode cX1_spread 20 = .ok (.iload_n 1, 1) := by decide +kernel
theorem dX1_spread_21 : decode cX1_spread 21 = .ok (.iadd, 1) := by decide +kernel
theorem dX1_spread_22 : decode cX1_spread 22 = .ok (.baload, 1) := by decide +kernel
theorem dX1_spread_23 : decode cX1_spread 23 = .ok (.ifCond .eq 32, 3) := by decide +kernel
theorem dX1_spread_26 : decode cX1_spread 26 = .ok (.aload_n 0, 1) := by decide +kernel
theorem dX1_spread_27 : decode cX1_spread 27 = .ok (.getfield 29, 3) := by decide +kernel
theorem dX1_spread_30 : decode cX1_spread 30 = .ok (.bipush 13, 2) := by decide +kernel
theorem dX1_spread_32 : decode cX1_spread 32 = .ok (.iload_n 2, 1) := by decide +kernel
theorem dX1_spread_33 : decode cX1_spread 33 = .ok (.imul, 1) := by decide +kernel
theorem dX1_spread_34 : decode cX1_spread 34 = .ok (.iload_n 1, 1) := by decide +kernel
theorem dX1_spread_35 : decode cX1_spread 35 = .ok (.iadd, 1) := by decide +kernel
theorem dX1_spread_36 : decode cX1_spread 36 = .ok (.baload, 1) := by decide +kernel
theorem dX1_spread_37 : decode cX1_spread 37 = .ok (.ifCond .eq 18, 3) := by decide +kernel
theorem dX1_spread_40 : decode cX1_spread 40 = .ok (.aload_n 0, 1) := by decide +kernel
theorem dX1_spread_41 : decode cX1_spread 41 = .ok (.getfield 29, 3) := by decide +kernel
theorem dX1_spread_44 : decode cX1_spread 44 = .ok (.bipush 13, 2) := by decide +kernel
theorem dX1_spread_46 : decode cX1_spread 46 = .ok (.iload_n 2, 1) := by decide +kernel
theorem dX1_spread_47 : decode cX1_spread 47 = .ok (.imul, 1) := by decide +kernel
theorem dX1_spread_48 : decode cX1_spread 48 = .ok (.bipush 13, 2) := by decide +kernel
theorem dX1_spread_50 : decode cX1_spread 50 = .ok (.iadd, 1) := by decide +kernel
theorem dX1_spread_51 : decode cX1_spread 51 = .ok (.iload_n 1, 1) := by decide +kernel
theorem dX1_spread_52 : decode cX1_spread 52 = .ok (.iadd, 1) := by decide +kernel
theorem dX1_spread_53 : decode cX1_spread 53 = .ok (.iconst 1, 1) := by decide +kernel
theorem dX1_spread_54 : decode cX1_spread 54 = .ok (.bastore, 1) := by decide +kernel
theorem dX1_spread_55 : decode cX1_spread 55 = .ok (.iinc 2 1, 3) := by decide +kernel
theorem dX1_spread_58 : decode cX1_spread 58 = .ok (.goto (-56), 3) := by decide +kernel
theorem dX1_spread_61 : decode cX1_spread 61 = .ok (.aload_n 0, 1) := by decide +kernel
theorem dX1_spread_62 : decode cX1_spread 62 = .ok (.getfield 36, 3) := by decide +kernel
theorem dX1_spread_65 : decode cX1_spread 65 = .ok (.iconst 2, 1) := by decide +kernel
theorem dX1_spread_66 : decode cX1_spread 66 = .ok (.isub, 1) := by decide +kernel
theorem dX1_spread_67 : decode cX1_spread 67 = .ok (.istore_n 2, 1) := by decide +kernel
theorem dX1_spread_68 : decode cX1_spread 68 = .ok (.iload_n 2, 1) := by decide +kernel
theorem dX1_spread_69 : decode cX1_spread 69 = .ok (.ifCond .lt 52, 3) := by decide +kernel
theorem dX1_spread_72 : decode cX1_spread 72 = .ok (.aload_n 0, 1) := by decide +kernel
theorem dX1_spread_73 : decode cX1_spread 73 = .ok (.getfield 19, 3) := by decide +kernel
theorem dX1_spread_76 : decode cX1_spread 76 = .ok (.bipush 13, 2) := by decide +kernel
theorem dX1_spread_78 : decode cX1_spread 78 = .ok (.iload_n 2, 1) := by decide +kernel
theorem dX1_spread_79 : decode cX1_spread 79 = .ok (.imul, 1) := by decide +kernel
theorem dX1_spread_80 : decode cX1_spread 80 = .ok (.iload_n 1, 1) := by decide +kernel
theorem dX1_spread_81 : decode cX1_spread 81 = .ok (.iadd, 1) := by decide +kernel
theorem dX1_spread_82 : decode cX1_spread 82 = .ok (.baload, 1) := by decide +kernel
theorem dX1_spread_83 : decode cX1_spread 83 = .ok (.ifCond .eq 32, 3) := by decide +kernel
theorem dX1_spread_86 : decode cX1_spread 86 = .ok (.aload_n 0, 1) := by decide +kernel
theorem dX1_spread_87 : decode cX1_spread 87 = .ok (.getfield 29, 3) := by decide +kernel
theorem dX1_spread_90 : decode cX1_spread 90 = .ok (.bipush 13, 2) := by decide +kernel
theorem dX1_spread_92 : decode cX1_spread 92 = .ok (.iload_n 2, 1) := by decide +kernel
theorem dX1_spread_93 : decode cX1_spread 93 = .ok (.imul, 1) := by decide +kernel
theorem dX1_spread_94 : decode cX1_spread 94 = .ok (.bipush 13, 2) := by decide +kernel
theorem dX1_spread_96 : decode cX1_spread 96 = .ok (.iadd, 1) := by decide +kernel
theorem dX1_spread_97 : decode cX1_spread 97 = .ok (.iload_n 1, 1) := by decide +kernel
theorem dX1_spread_98 : decode cX1_spread 98 = .ok (.iadd, 1) := by decide +kernel
theorem dX1_spread_99 : decode cX1_spread 99 = .ok (.baload, 1) := by decide +kernel
theorem dX1_spread_100 : decode cX1_spread 100 = .ok (.ifCond .eq 15, 3) := by decide +kernel
theorem dX1_spread_103 : decode cX1_spread 103 = .ok (.aload_n 0, 1) := by decide +kernel
theorem dX1_spread_104 : decode cX1_spread 104 = .ok (.getfield 29, 3) := by decide +kernel
theorem dX1_spread_107 : decode cX1_spread 107 = .ok (.bipush 13, 2) := by decide +kernel
theorem dX1_spread_109 : decode cX1_spread 109 = .ok (.iload_n 2, 1) := by decide +kernel
theorem dX1_spread_110 : decode cX1_spread 110 = .ok (.imul, 1) := by decide +kernel
theorem dX1_spread_111 : decode cX1_spread 111 = .ok (.iload_n 1, 1) := by decide +kernel
theorem dX1_spread_112 : decode cX1_spread 112 = .ok (.iadd, 1) := by decide +kernel
theorem dX1_spread_113 : decode cX1_spread 113 = .ok (.iconst 1, 1) := by decide +kernel
theorem dX1_spread_114 : decode cX1_spread 114 = .ok (.bastore, 1) := by decide +kernel
theorem dX1_spread_115 : decode cX1_spread 115 = .ok (.iinc 2 (-1), 3) := by decide +kernel
theorem dX1_spread_118 : decode cX1_spread 118 = .ok (.goto (-50), 3) := by decide +kernel
theorem dX1_spread_121 : decode cX1_spread 121 = .ok (.return_, 1) := by decide +kernel
theorem dX1_coils_0 : decode cX1_coils 0 = .ok (.iconst 0, 1) := by decide +kernel
theorem dX1_coils_1 : decode cX1_coils 1 = .ok (.istore_n 1, 1) := by decide +kernel
theorem dX1_coils_2 : decode cX1_coils 2 = .ok (.iconst 0, 1) := by decide +kernel
theorem dX1_coils_3 : decode cX1_coils 3 = .ok (.istore_n 2, 1) := by decide +kernel
theorem dX1_coils_4 : decode cX1_coils 4 = .ok (.iload_n 2, 1) := by decide +kernel
theorem dX1_coils_5 : decode cX1_coils 5 = .ok (.aload_n 0, 1) := by decide +kernel
theorem dX1_coils_6 : decode cX1_coils 6 = .ok (.getfield 36, 3) := by decide +kernel
theorem dX1_coils_9 : decode cX1_coils 9 = .ok (.if_icmp .ge 152, 3) := by decide +kernel
theorem dX1_coils_12 : decode cX1_coils 12 = .ok (.bipush 12, 2) := by decide +kernel
theorem dX1_coils_14 : decode cX1_coils 14 = .ok (.iload_n 2, 1) := by decide +kernel
theorem dX1_coils_15 : decode cX1_coils 15 = .ok (.imul, 1) := by decide +kernel
theorem dX1_coils_16 : decode cX1_coils 16 = .ok (.aload_n 0, 1) := by decide +kernel
theorem dX1_coils_17 : decode cX1_coils 17 = .ok (.getfield 40, 3) := by decide +kernel
theorem dX1_coils_20 : decode cX1_coils 20 = .ok (.iadd, 1) := by decide +kernel
theorem dX1_coils_21 : decode cX1_coils 21 = .ok (.iconst 1, 1) := by decide +kernel
theorem dX1_coils_22 : decode cX1_coils 22 = .ok (.isub, 1) := by decide +kernel
theorem dX1_coils_23 : decode cX1_coils 23 = .ok (.istore_n 3, 1) := by decide +kernel
theorem dX1_coils_24 : decode cX1_coils 24 = .ok (.aload_n 0, 1) := by decide +kernel
theorem dX1_coils_25 : decode cX1_coils 25 = .ok (.getfield 29, 3) := by decide +kernel
theorem dX1_coils_28 : decode cX1_coils 28 = .ok (.bipush 13, 2) := by decide +kernel
theorem dX1_coils_30 : decode cX1_coils 30 = .ok (.iload_n 2, 1) := by decide +kernel
theorem dX1_coils_31 : decode cX1_coils 31 = .ok (.imul, 1) := by decide +kernel
theorem dX1_coils_32 : decode cX1_coils 32 = .ok (.aload_n 0, 1) := by decide +kernel
theorem dX1_coils_33 : decode cX1_coils 33 = .ok (.getfield 40, 3) := by decide +kernel
theorem dX1_coils_36 : decode cX1_coils 36 = .ok (.iadd, 1) := by decide +kernel
theorem dX1_coils_37 : decode cX1_coils 37 = .ok (.iconst 1, 1) := by decide +kernel
theorem dX1_coils_38 : decode cX1_coils 38 = .ok (.isub, 1) := by decide +kernel
theorem dX1_coils_39 : decode cX1_coils 39 = .ok (.baload, 1) := by decide +kernel
theorem dX1_coils_40 : decode cX1_coils 40 = .ok (.istore 4, 2) := by decide +kernel
theorem dX1_coils_42 : decode cX1_coils 42 = .ok (.aload_n 0, 1) := by decide +kernel
theorem dX1_coils_43 : decode cX1_coils 43 = .ok (.getfield 13, 3) := by decide +kernel
theorem dX1_coils_46 : decode cX1_coils 46 = .ok (.iload_n 3, 1) := by decide +kernel
theorem dX1_coils_47 : decode cX1_coils 47 = .ok (.iaload, 1) := by decide +kernel
theorem dX1_coils_48 : decode cX1_coils 48 = .ok (.istore 5, 2) := by decide +kernel
theorem dX1_coils_50 : decode cX1_coils 50 = .ok (.aload_n 0, 1) := by decide +kernel
theorem dX1_coils_51 : decode cX1_coils 51 = .ok (.getfield 7, 3) := by decide +kernel
theorem dX1_coils_54 : decode cX1_coils 54 = .ok (.iload_n 3, 1) := by decide +kernel
theorem dX1_coils_55 : decode cX1_coils 55 = .ok (.iaload, 1) := by decide +kernel
theorem dX1_coils_56 : decode cX1_coils 56 = .ok (.bipush 6, 2) := by decide +kernel
theorem dX1_coils_58 : decode cX1_coils 58 = .ok (.if_icmp .lt 97, 3) := by decide +kernel
theorem dX1_coils_61 : decode cX1_coils 61 = .ok (.iload 4, 2) := by decide +kernel
theorem dX1_coils_63 : decode cX1_coils 63 = .ok (.ifCond .eq 9, 3) := by decide +kernel
theorem dX1_coils_66 : decode cX1_coils 66 = .ok (.iload_n 1, 1) := by decide +kernel
theorem dX1_coils_67 : decode cX1_coils 67 = .ok (.iconst 1, 1) := by decide +kernel
theorem dX1_coils_68 : decode cX1_coils 68 = .ok (.iadd, 1) := by decide +kernel
theorem dX1_coils_69 : decode cX1_coils 69 = .ok (.goto 4, 3) := by decide +kernel
theorem dX1_coils_72 : decode cX1_coils 72 = .ok (.iload_n 1, 1) := by decide +kernel
theorem dX1_coils_73 : decode cX1_coils 73 = .ok (.istore_n 1, 1) := by decide +kernel
theorem dX1_coils_74 : decode cX1_coils 74 = .ok (.aload_n 0, 1) := by decide +kernel
theorem dX1_coils_75 : decode cX1_coils 75 = .ok (.getfield 7, 3) := by decide +kernel
theorem dX1_coils_78 : decode cX1_coils 78 = .ok (.iload_n 3, 1) := by decide +kernel
theorem dX1_coils_79 : decode cX1_coils 79 = .ok (.iaload, 1) := by decide +kernel
theorem dX1_coils_80 : decode cX1_coils 80 = .ok (.bipush 6, 2) := by decide +kernel
theorem dX1_coils_82 : decode cX1_coils 82 = .ok (.isub, 1) := by decide +kernel
theorem dX1_coils_83 : decode cX1_coils 83 = .ok (.istore 6, 2) := by decide +kernel
theorem dX1_coils_85 : decode cX1_coils 85 = .ok (.aload_n 0, 1) := by decide +kernel
theorem dX1_coils_86 : decode cX1_coils 86 = .ok (.getfield 23, 3) := by decide +kernel
theorem dX1_coils_89 : decode cX1_coils 89 = .ok (.iload 5, 2) := by decide +kernel
theorem dX1_coils_91 : decode cX1_coils 91 = .ok (.iload 6, 2) := by decide +kernel
theorem dX1_coils_93 : decode cX1_coils 93 = .ok (.ifCond .ne 16, 3) := by decide +kernel
theorem dX1_coils_96 : decode cX1_coils 96 = .ok (.iload 4, 2) := by decide +kernel
theorem dX1_coils_98 : decode cX1_coils 98 = .ok (.ifCond .eq 7, 3) := by decide +kernel
theorem dX1_coils_101 : decode cX1_coils 101 = .ok (.iconst 1, 1) := by decide +kernel
theorem dX1_coils_102 : decode cX1_coils 102 = .ok (.goto 52, 3) := by decide +kernel
theorem dX1_coils_105 : decode cX1_coils 105 = .ok (.iconst 0, 1) := by decide +kernel
theorem dX1_coils_106 : decode cX1_coils 106 = .ok (.goto 48, 3) := by decide +kernel
theorem dX1_coils_109 : decode cX1_coils 109 = .ok (.iload 6, 2) := by decide +kernel
theorem dX1_coils_111 : decode cX1_coils 111 = .ok (.iconst 1, 1) := by decide +kernel
theorem dX1_coils_112 : decode cX1_coils 112 = .ok (.if_icmp .ne 16, 3) := by decide +kernel
theorem dX1_coils_115 : decode cX1_coils 115 = .ok (.iload 4, 2) := by decide +kernel
theorem dX1_coils_117 : decode cX1_coils 117 = .ok (.ifCond .eq 7, 3) := by decide +kernel
theorem dX1_coils_120 : decode cX1_coils 120 = .ok (.iconst 0, 1) := by decide +kernel
theorem dX1_coils_121 : decode cX1_coils 121 = .ok (.goto 33, 3) := by decide +kernel
theorem dX1_coils_124 : decode cX1_coils 124 = .ok (.iconst 1, 1) := by decide +kernel
theorem dX1_coils_125 : decode cX1_coils 125 = .ok (.goto 29, 3) := by decide +kernel
theorem dX1_coils_128 : decode cX1_coils 128 = .ok (.iload 4, 2) := by decide +kernel
theorem dX1_coils_130 : decode cX1_coils 130 = .ok (.ifCond .eq 17, 3) := by decide +kernel
theorem dX1_coils_133 : decode cX1_coils 133 = .ok (.iload 6, 2) := by decide +kernel
theorem dX1_coils_135 : decode cX1_coils 135 = .ok (.iconst 2, 1) := by decide +kernel
theorem dX1_coils_136 : decode cX1_coils 136 = .ok (.if_icmp .ne 7, 3) := by decide +kernel
theorem dX1_coils_139 : decode cX1_coils 139 = .ok (.iconst 1, 1) := by decide +kernel
theorem dX1_coils_140 : decode cX1_coils 140 = .ok (.goto 14, 3) := by decide +kernel
theorem dX1_coils_143 : decode cX1_coils 143 = .ok (.iconst 0, 1) := by decide +kernel
theorem dX1_coils_144 : decode cX1_coils 144 = .ok (.goto 10, 3) := by decide +kernel
theorem dX1_coils_147 : decode cX1_coils 147 = .ok (.aload_n 0, 1) := by decide +kernel
theorem dX1_coils_148 : decode cX1_coils 148 = .ok (.getfield 23, 3) := by decide +kernel
theorem dX1_coils_151 : decode cX1_coils 151 = .ok (.iload 5, 2) := by decide +kernel
theorem dX1_coils_153 : decode cX1_coils 153 = .ok (.iaload, 1) := by decide +kernel
theorem dX1_coils_154 : decode cX1_coils 154 = .ok (.iastore, 1) := by decide +kernel
theorem dX1_coils_155 : decode cX1_coils 155 = .ok (.iinc 2 1, 3) := by decide +kernel
theorem dX1_coils_158 : decode cX1_coils 158 = .ok (.goto (-154), 3) := by decide +kernel
theorem dX1_coils_161 : decode cX1_coils 161 = .ok (.iload_n 1, 1) := by decide +kernel
theorem dX1_coils_162 : decode cX1_coils 162 = .ok (.ireturn, 1) := by decide +kernel
set_option maxRecDepth 20000 in
theorem ggX1_scan_X1_lets : GoodIn wsX1_scan wsX1_lets := goodIn_r _ [13, 1, 7, 14, 6, 24, 25, 26, 27, 28, 29, 30, 31, 32, 33] (by decide +kernel) (by decide +kernel)
set_option maxRecDepth 20000 in
theorem gX1_scan_X1_lets : GoodIn wsX1_scan (wsV RX1 55 RX1 yX1_lets wsX1_lets) := goodIn_app (goodIn_of _ (by decide +kernel)) ggX1_scan_X1_lets
set_option maxRecDepth 20000 in
theorem ggX1_scan_X1_spread : GoodIn wsX1_scan wsX1_spread := goodIn_r _ [18, 3, 19, 4, 24, 25, 26, 27, 28, 29, 30, 31, 32, 33] (by decide +kernel) (by decide +kernel)
set_option maxRecDepth 20000 in
theorem gX1_scan_X1_spread : GoodIn wsX1_scan (wsV RX1 58 RX1 yX1_spread wsX1_spread) := goodIn_app (goodIn_of _ (by decide +kernel)) ggX1_scan_X1_spread
set_option maxRecDepth 20000 in
theorem ggX1_scan_X1_coils : GoodIn wsX1_scan wsX1_coils := goodIn_r _ [23, 3, 5, 4, 7, 14, 2, 24, 25, 26, 27, 28, 29, 30, 31, 32, 33] (by decide +kernel) (by decide +kernel)
set_option maxRecDepth 20000 in
theorem gX1_scan_X1_coils : GoodIn wsX1_scan (wsV RX1 62 RX1 yX1_coils wsX1_coils) := goodIn_app (goodIn_of _ (by decide +kernel)) ggX1_scan_X1_coils
theorem dX1_scan_0 : decode cX1_scan 0 = .ok (.iconst 0, 1) := by decide +kernel
theorem dX1_scan_1 : decode cX1_scan 1 = .ok (.istore_n 1, 1) := by decide +kernel
theorem dX1_scan_2 : decode cX1_scan 2 = .ok (.iload_n 1, 1) := by decide +kernel
theorem dX1_scan_3 : decode cX1_scan 3 = .ok (.bipush 40, 2) := by decide +kernel
theorem dX1_scan_5 : decode cX1_scan 5 = .ok (.if_icmp .ge 21, 3) := by decide +kernel
theorem dX1_scan_8 : decode cX1_scan 8 = .ok (.aload_n 0, 1) := by decide +kernel
theorem dX1_scan_9 : decode cX1_scan 9 = .ok (.getfield 26, 3) := by decide +kernel
theorem dX1_scan_12 : decode cX1_scan 12 = .ok (.iload_n 1, 1) := by decide +kernel
theorem dX1_scan_13 : decode cX1_scan 13 = .ok (.aload_n 0, 1) := by decide +kernel
theorem dX1_scan_14 : decode cX1_scan 14 = .ok (.getfield 23, 3) := by decide +kernel
theorem dX1_scan_17 : decode cX1_scan 17 = .ok (.iload_n 1, 1) := by decide +kernel
theorem dX1_scan_18 : decode cX1_scan 18 = .ok (.iaload, 1) := by decide +kernel
theorem dX1_scan_19 : decode cX1_scan 19 = .ok (.iastore, 1) := by decide +kernel
theorem dX1_scan_20 : decode cX1_scan 20 = .ok (.iinc 1 1, 3) := by decide +kernel
theorem dX1_scan_23 : decode cX1_scan 23 = .ok (.goto (-21), 3) := by decide +kernel
theorem dX1_scan_26 : decode cX1_scan 26 = .ok (.iconst 0, 1) := by decide +kernel
theorem dX1_scan_27 : decode cX1_scan 27 = .ok (.istore_n 1, 1) := by decide +kernel
theorem dX1_scan_28 : decode cX1_scan 28 = .ok (.iload_n 1, 1) := by decide +kernel
theorem dX1_scan_29 : decode cX1_scan 29 = .ok (.aload_n 0, 1) := by decide +kernel
theorem dX1_scan_30 : decode cX1_scan 30 = .ok (.getfield 36, 3) := by decide +kernel
theorem dX1_scan_33 : decode cX1_scan 33 = .ok (.if_icmp .ge 19, 3) := by decide +kernel
theorem dX1_scan_36 : decode cX1_scan 36 = .ok (.aload_n 0, 1) := by decide +kernel
theorem dX1_scan_37 : decode cX1_scan 37 = .ok (.getfield 29, 3) := by decide +kernel
theorem dX1_scan_40 : decode cX1_scan 40 = .ok (.bipush 13, 2) := by decide +kernel
theorem dX1_scan_42 : decode cX1_scan 42 = .ok (.iload_n 1, 1) := by decide +kernel
theorem dX1_scan_43 : decode cX1_scan 43 = .ok (.imul, 1) := by decide +kernel
theorem dX1_scan_44 : decode cX1_scan 44 = .ok (.iconst 1, 1) := by decide +kernel
theorem dX1_scan_45 : decode cX1_scan 45 = .ok (.bastore, 1) := by decide +kernel
theorem dX1_scan_46 : decode cX1_scan 46 = .ok (.iinc 1 1, 3) := by decide +kernel
theorem dX1_scan_49 : decode cX1_scan 49 = .ok (.goto (-21), 3) := by decide +kernel
theorem dX1_scan_52 : decode cX1_scan 52 = .ok (.iconst 0, 1) := by decide +kernel
theorem dX1_scan_53 : decode cX1_scan 53 = .ok (.istore_n 1, 1) := by decide +kernel
theorem dX1_scan_54 : decode cX1_scan 54 = .ok (.iload_n 1, 1) := by decide +kernel
theorem dX1_scan_55 : decode cX1_scan 55 = .ok (.aload_n 0, 1) := by decide +kernel
theorem dX1_scan_56 : decode cX1_scan 56 = .ok (.getfield 40, 3) := by decide +kernel
theorem dX1_scan_59 : decode cX1_scan 59 = .ok (.if_icmp .ge 106, 3) := by decide +kernel
theorem dX1_scan_62 : decode cX1_scan 62 = .ok (.iconst 0, 1) := by decide +kernel
theorem dX1_scan_63 : decode cX1_scan 63 = .ok (.istore_n 2, 1) := by decide +kernel
theorem dX1_scan_64 : decode cX1_scan 64 = .ok (.iload_n 2, 1) := by decide +kernel
theorem dX1_scan_65 : decode cX1_scan 65 = .ok (.aload_n 0, 1) := by decide +kernel
theorem dX1_scan_66 : decode cX1_scan 66 = .ok (.getfield 36, 3) := by decide +kernel
theorem dX1_scan_69 : decode cX1_scan 69 = .ok (.if_icmp .ge 73, 3) := by decide +kernel
theorem dX1_scan_72 : decode cX1_scan 72 = .ok (.bipush 12, 2) := by decide +kernel
theorem dX1_scan_74 : decode cX1_scan 74 = .ok (.iload_n 2, 1) := by decide +kernel
theorem dX1_scan_75 : decode cX1_scan 75 = .ok (.imul, 1) := by decide +kernel
theorem dX1_scan_76 : decode cX1_scan 76 = .ok (.iload_n 1, 1) := by decide +kernel
theorem dX1_scan_77 : decode cX1_scan 77 = .ok (.iadd, 1) := by decide +kernel
theorem dX1_scan_78 : decode cX1_scan 78 = .ok (.istore_n 3, 1) := by decide +kernel
theorem dX1_scan_79 : decode cX1_scan 79 = .ok (.aload_n 0, 1) := by decide +kernel
theorem dX1_scan_80 : decode cX1_scan 80 = .ok (.getfield 29, 3) := by decide +kernel
theorem dX1_scan_83 : decode cX1_scan 83 = .ok (.bipush 13, 2) := by decide +kernel
theorem dX1_scan_85 : decode cX1_scan 85 = .ok (.iload_n 2, 1) := by decide +kernel
theorem dX1_scan_86 : decode cX1_scan 86 = .ok (.imul, 1) := by decide +kernel
theorem dX1_scan_87 : decode cX1_scan 87 = .ok (.iload_n 1, 1) := by decide +kernel
theorem dX1_scan_88 : decode cX1_scan 88 = .ok (.iadd, 1) := by decide +kernel
theorem dX1_scan_89 : decode cX1_scan 89 = .ok (.iconst 1, 1) := by decide +kernel
theorem dX1_scan_90 : decode cX1_scan 90 = .ok (.iadd, 1) := by decide +kernel
theorem dX1_scan_91 : decode cX1_scan 91 = .ok (.aload_n 0, 1) := by decide +kernel
theorem dX1_scan_92 : decode cX1_scan 92 = .ok (.getfield 29, 3) := by decide +kernel
theorem dX1_scan_95 : decode cX1_scan 95 = .ok (.bipush 13, 2) := by decide +kernel
theorem dX1_scan_97 : decode cX1_scan 97 = .ok (.iload_n 2, 1) := by decide +kernel
theorem dX1_scan_98 : decode cX1_scan 98 = .ok (.imul, 1) := by decide +kernel
theorem dX1_scan_99 : decode cX1_scan 99 = .ok (.iload_n 1, 1) := by decide +kernel
theorem dX1_scan_100 : decode cX1_scan 100 = .ok (.iadd, 1) := by decide +kernel
theorem dX1_scan_101 : decode cX1_scan 101 = .ok (.baload, 1) := by decide +kernel
theorem dX1_scan_102 : decode cX1_scan 102 = .ok (.ifCond .eq 15, 3) := by decide +kernel
theorem dX1_scan_105 : decode cX1_scan 105 = .ok (.aload_n 0, 1) := by decide +kernel
theorem dX1_scan_106 : decode cX1_scan 106 = .ok (.iload_n 3, 1) := by decide +kernel
theorem dX1_scan_107 : decode cX1_scan 107 = .ok (.invokevirtual 55, 3) := by decide +kernel
theorem dX1_scan_110 : decode cX1_scan 110 = .ok (.ifCond .eq 7, 3) := by decide +kernel
theorem dX1_scan_113 : decode cX1_scan 113 = .ok (.iconst 1, 1) := by decide +kernel
theorem dX1_scan_114 : decode cX1_scan 114 = .ok (.goto 4, 3) := by decide +kernel
theorem dX1_scan_117 : decode cX1_scan 117 = .ok (.iconst 0, 1) := by decide +kernel
theorem dX1_scan_118 : decode cX1_scan 118 = .ok (.bastore, 1) := by decide +kernel
theorem dX1_scan_119 : decode cX1_scan 119 = .ok (.aload_n 0, 1) := by decide +kernel
theorem dX1_scan_120 : decode cX1_scan 120 = .ok (.getfield 16, 3) := by decide +kernel
theorem dX1_scan_123 : decode cX1_scan 123 = .ok (.iload_n 3, 1) := by decide +kernel
theorem dX1_scan_124 : decode cX1_scan 124 = .ok (.aload_n 0, 1) := by decide +kernel
theorem dX1_scan_125 : decode cX1_scan 125 = .ok (.getfield 26, 3) := by decide +kernel
theorem dX1_scan_128 : decode cX1_scan 128 = .ok (.aload_n 0, 1) := by decide +kernel
theorem dX1_scan_129 : decode cX1_scan 129 = .ok (.getfield 13, 3) := by decide +kernel
theorem dX1_scan_132 : decode cX1_scan 132 = .ok (.iload_n 3, 1) := by decide +kernel
theorem dX1_scan_133 : decode cX1_scan 133 = .ok (.iaload, 1) := by decide +kernel
theorem dX1_scan_134 : decode cX1_scan 134 = .ok (.iaload, 1) := by decide +kernel
theorem dX1_scan_135 : decode cX1_scan 135 = .ok (.iastore, 1) := by decide +kernel
theorem dX1_scan_136 : decode cX1_scan 136 = .ok (.iinc 2 1, 3) := by decide +kernel
theorem dX1_scan_139 : decode cX1_scan 139 = .ok (.goto (-75), 3) := by decide +kernel
theorem dX1_scan_142 : decode cX1_scan 142 = .ok (.iload_n 1, 1) := by decide +kernel
theorem dX1_scan_143 : decode cX1_scan 143 = .ok (.iconst 1, 1) := by decide +kernel
theorem dX1_scan_144 : decode cX1_scan 144 = .ok (.iadd, 1) := by decide +kernel
theorem dX1_scan_145 : decode cX1_scan 145 = .ok (.aload_n 0, 1) := by decide +kernel
theorem dX1_scan_146 : decode cX1_scan 146 = .ok (.getfield 40, 3) := by decide +kernel
theorem dX1_scan_149 : decode cX1_scan 149 = .ok (.if_icmp .ge 10, 3) := by decide +kernel
theorem dX1_scan_152 : decode cX1_scan 152 = .ok (.aload_n 0, 1) := by decide +kernel
theorem dX1_scan_153 : decode cX1_scan 153 = .ok (.iload_n 1, 1) := by decide +kernel
theorem dX1_scan_154 : decode cX1_scan 154 = .ok (.iconst 1, 1) := by decide +kernel
theorem dX1_scan_155 : decode cX1_scan 155 = .ok (.iadd, 1) := by decide +kernel
theorem dX1_scan_156 : decode cX1_scan 156 = .ok (.invokevirtual 58, 3) := by decide +kernel
theorem dX1_scan_159 : decode cX1_scan 159 = .ok (.iinc 1 1, 3) := by decide +kernel
theorem dX1_scan_162 : decode cX1_scan 162 = .ok (.goto (-108), 3) := by decide +kernel
theorem dX1_scan_165 : decode cX1_scan 165 = .ok (.aload_n 0, 1) := by decide +kernel
theorem dX1_scan_166 : decode cX1_scan 166 = .ok (.iconst 1, 1) := by decide +kernel
theorem dX1_scan_167 : decode cX1_scan 167 = .ok (.putfield 43, 3) := by decide +kernel
theorem dX1_scan_170 : decode cX1_scan 170 = .ok (.aload_n 0, 1) := by decide +kernel
theorem dX1_scan_171 : decode cX1_scan 171 = .ok (.invokevirtual 62, 3) := by decide +kernel
theorem dX1_scan_174 : decode cX1_scan 174 = .ok (.ireturn, 1) := by decide +kernel
theorem dX1_power_0 : decode cX1_power 0 = .ok (.iload_n 1, 1) := by decide +kernel
theorem dX1_power_1 : decode cX1_power 1 = .ok (.ifCond .lt 59, 3) := by decide +kernel
theorem dX1_power_4 : decode cX1_power 4 = .ok (.iload_n 1, 1) := by decide +kernel
theorem dX1_power_5 : decode cX1_power 5 = .ok (.aload_n 0, 1) := by decide +kernel
theorem dX1_power_6 : decode cX1_power 6 = .ok (.getfield 36, 3) := by decide +kernel
theorem dX1_power_9 : decode cX1_power 9 = .ok (.if_icmp .ge 51, 3) := by decide +kernel
theorem dX1_power_12 : decode cX1_power 12 = .ok (.iload_n 2, 1) := by decide +kernel
theorem dX1_power_13 : decode cX1_power 13 = .ok (.ifCond .lt 47, 3) := by decide +kernel
theorem dX1_power_16 : decode cX1_power 16 = .ok (.iload_n 2, 1) := by decide +kernel
theorem dX1_power_17 : decode cX1_power 17 = .ok (.aload_n 0, 1) := by decide +kernel
theorem dX1_power_18 : decode cX1_power 18 = .ok (.getfield 40, 3) := by decide +kernel
theorem dX1_power_21 : decode cX1_power 21 = .ok (.if_icmp .gt 39, 3) := by decide +kernel
theorem dX1_power_24 : decode cX1_power 24 = .ok (.aload_n 0, 1) := by decide +kernel
theorem dX1_power_25 : decode cX1_power 25 = .ok (.getfield 43, 3) := by decide +kernel
theorem dX1_power_28 : decode cX1_power 28 = .ok (.ifCond .eq 32, 3) := by decide +kernel
theorem dX1_power_31 : decode cX1_power 31 = .ok (.iload_n 2, 1) := by decide +kernel
theorem dX1_power_32 : decode cX1_power 32 = .ok (.aload_n 0, 1) := by decide +kernel
theorem dX1_power_33 : decode cX1_power 33 = .ok (.getfield 40, 3) := by decide +kernel
theorem dX1_power_36 : decode cX1_power 36 = .ok (.if_icmp .ne 26, 3) := by decide +kernel
theorem dX1_power_39 : decode cX1_power 39 = .ok (.aload_n 0, 1) := by decide +kernel
theorem dX1_power_40 : decode cX1_power 40 = .ok (.getfield 7, 3) := by decide +kernel
theorem dX1_power_43 : decode cX1_power 43 = .ok (.bipush 12, 2) := by decide +kernel
theorem dX1_power_45 : decode cX1_power 45 = .ok (.iload_n 1, 1) := by decide +kernel
theorem dX1_power_46 : decode cX1_power 46 = .ok (.imul, 1) := by decide +kernel
theorem dX1_power_47 : decode cX1_power 47 = .ok (.aload_n 0, 1) := by decide +kernel
theorem dX1_power_48 : decode cX1_power 48 = .ok (.getfield 40, 3) := by decide +kernel
theorem dX1_power_51 : decode cX1_power 51 = .ok (.iadd, 1) := by decide +kernel
theorem dX1_power_52 : decode cX1_power 52 = .ok (.iconst 1, 1) := by decide +kernel
theorem dX1_power_53 : decode cX1_power 53 = .ok (.isub, 1) := by decide +kernel
theorem dX1_power_54 : decode cX1_power 54 = .ok (.iaload, 1) := by decide +kernel
theorem dX1_power_55 : decode cX1_power 55 = .ok (.bipush 6, 2) := by decide +kernel
theorem dX1_power_57 : decode cX1_power 57 = .ok (.if_icmp .lt 5, 3) := by decide +kernel
theorem dX1_power_60 : decode cX1_power 60 = .ok (.iconst (-1), 1) := by decide +kernel
theorem dX1_power_61 : decode cX1_power 61 = .ok (.ireturn, 1) := by decide +kernel
theorem dX1_power_62 : decode cX1_power 62 = .ok (.aload_n 0, 1) := by decide +kernel
theorem dX1_power_63 : decode cX1_power 63 = .ok (.getfield 29, 3) := by decide +kernel
theorem dX1_power_66 : decode cX1_power 66 = .ok (.bipush 13, 2) := by decide +kernel
theorem dX1_power_68 : decode cX1_power 68 = .ok (.iload_n 1, 1) := by decide +kernel
theorem dX1_power_69 : decode cX1_power 69 = .ok (.imul, 1) := by decide +kernel
theorem dX1_power_70 : decode cX1_power 70 = .ok (.iload_n 2, 1) := by decide +kernel
theorem dX1_power_71 : decode cX1_power 71 = .ok (.iadd, 1) := by decide +kernel
theorem dX1_power_72 : decode cX1_power 72 = .ok (.baload, 1) := by decide +kernel
theorem dX1_power_73 : decode cX1_power 73 = .ok (.ifCond .eq 7, 3) := by decide +kernel
theorem dX1_power_76 : decode cX1_power 76 = .ok (.iconst 1, 1) := by decide +kernel
theorem dX1_power_77 : decode cX1_power 77 = .ok (.goto 4, 3) := by decide +kernel
theorem dX1_power_80 : decode cX1_power 80 = .ok (.iconst 0, 1) := by decide +kernel
theorem dX1_power_81 : decode cX1_power 81 = .ok (.ireturn, 1) := by decide +kernel
theorem dX1_term_0 : decode cX1_term 0 = .ok (.iload_n 0, 1) := by decide +kernel
theorem dX1_term_1 : decode cX1_term 1 = .ok (.iconst 1, 1) := by decide +kernel
theorem dX1_term_2 : decode cX1_term 2 = .ok (.if_icmp .ne 7, 3) := by decide +kernel
theorem dX1_term_5 : decode cX1_term 5 = .ok (.iconst 1, 1) := by decide +kernel
theorem dX1_term_6 : decode cX1_term 6 = .ok (.goto 23, 3) := by decide +kernel
theorem dX1_term_9 : decode cX1_term 9 = .ok (.iload_n 0, 1) := by decide +kernel
theorem dX1_term_10 : decode cX1_term 10 = .ok (.iconst 2, 1) := by decide +kernel
theorem dX1_term_11 : decode cX1_term 11 = .ok (.if_icmp .ne 7, 3) := by decide +kernel
theorem dX1_term_14 : decode cX1_term 14 = .ok (.iconst 3, 1) := by decide +kernel
theorem dX1_term_15 : decode cX1_term 15 = .ok (.goto 14, 3) := by decide +kernel
theorem dX1_term_18 : decode cX1_term 18 = .ok (.iload_n 0, 1) := by decide +kernel
theorem dX1_term_19 : decode cX1_term 19 = .ok (.iconst 3, 1) := by decide +kernel
theorem dX1_term_20 : decode cX1_term 20 = .ok (.if_icmp .ne 7, 3) := by decide +kernel
theorem dX1_term_23 : decode cX1_term 23 = .ok (.iconst 4, 1) := by decide +kernel
theorem dX1_term_24 : decode cX1_term 24 = .ok (.goto 5, 3) := by decide +kernel
theorem dX1_term_27 : decode cX1_term 27 = .ok (.bipush 8, 2) := by decide +kernel
theorem dX1_term_29 : decode cX1_term 29 = .ok (.ireturn, 1) := by decide +kernel
set_option maxRecDepth 20000 in
theorem ggX1_lineSteps_X1_term : GoodIn wsX1_lineSteps wsX1_term := goodIn_r _ [8] (by decide +kernel) (by decide +kernel)
set_option maxRecDepth 20000 in
theorem gX1_lineSteps_X1_term : GoodIn wsX1_lineSteps (va_wsS RX1 66 yX1_term wsX1_term) := goodIn_app (goodIn_of _ (by decide +kernel)) ggX1_lineSteps_X1_term
end
section
theorem dX1_lineSteps_0 : decode cX1_lineSteps 0 = .ok (.iconst 0, 1) := by decide +kernel
theorem dX1_lineSteps_1 : decode cX1_lineSteps 1 = .ok (.istore_n 2, 1) := by decide +kernel
theorem dX1_lineSteps_2 : decode cX1_lineSteps 2 = .ok (.iconst 0, 1) := by decide +kernel
theorem dX1_lineSteps_3 : decode cX1_lineSteps 3 = .ok (.istore_n 3, 1) := by decide +kernel
theorem dX1_lineSteps_4 : decode cX1_lineSteps 4 = .ok (.iconst 0, 1) := by decide +kernel
theorem dX1_lineSteps_5 : decode cX1_lineSteps 5 = .ok (.istore 4, 2) := by decide +kernel
theorem dX1_lineSteps_7 : decode cX1_lineSteps 7 = .ok (.iload 4, 2) := by decide +kernel
theorem dX1_lineSteps_9 : decode cX1_lineSteps 9 = .ok (.aload_n 0, 1) := by decide +kernel
theorem dX1_lineSteps_10 : decode cX1_lineSteps 10 = .ok (.getfield 36, 3) := by decide +kernel
theorem dX1_lineSteps_13 : decode cX1_lineSteps 13 = .ok (.if_icmp .ge 139, 3) := by decide +kernel
theorem dX1_lineSteps_16 : decode cX1_lineSteps 16 = .ok (.aload_n 0, 1) := by decide +kernel
theorem dX1_lineSteps_17 : decode cX1_lineSteps 17 = .ok (.getfield 7, 3) := by decide +kernel
theorem dX1_lineSteps_20 : decode cX1_lineSteps 20 = .ok (.bipush 12, 2) := by decide +kernel
theorem dX1_lineSteps_22 : decode cX1_lineSteps 22 = .ok (.iload 4, 2) := by decide +kernel
theorem dX1_lineSteps_24 : decode cX1_lineSteps 24 = .ok (.imul, 1) := by decide +kernel
theorem dX1_lineSteps_25 : decode cX1_lineSteps 25 = .ok (.iload_n 1, 1) := by decide +kernel
theorem dX1_lineSteps_26 : decode cX1_lineSteps 26 = .ok (.iadd, 1) := by decide +kernel
theorem dX1_lineSteps_27 : decode cX1_lineSteps 27 = .ok (.iconst 1, 1) := by decide +kernel
theorem dX1_lineSteps_28 : decode cX1_lineSteps 28 = .ok (.isub, 1) := by decide +kernel
theorem dX1_lineSteps_29 : decode cX1_lineSteps 29 = .ok (.iaload, 1) := by decide +kernel
theorem dX1_lineSteps_30 : decode cX1_lineSteps 30 = .ok (.istore 5, 2) := by decide +kernel
theorem dX1_lineSteps_32 : decode cX1_lineSteps 32 = .ok (.iload 5, 2) := by decide +kernel
theorem dX1_lineSteps_34 : decode cX1_lineSteps 34 = .ok (.bipush 6, 2) := by decide +kernel
theorem dX1_lineSteps_36 : decode cX1_lineSteps 36 = .ok (.if_icmp .lt 8, 3) := by decide +kernel
theorem dX1_lineSteps_39 : decode cX1_lineSteps 39 = .ok (.iconst 0, 1) := by decide +kernel
theorem dX1_lineSteps_40 : decode cX1_lineSteps 40 = .ok (.istore_n 3, 1) := by decide +kernel
theorem dX1_lineSteps_41 : decode cX1_lineSteps 41 = .ok (.goto 105, 3) := by decide +kernel
theorem dX1_lineSteps_44 : decode cX1_lineSteps 44 = .ok (.iload 5, 2) := by decide +kernel
theorem dX1_lineSteps_46 : decode cX1_lineSteps 46 = .ok (.ifCond .ne 7, 3) := by decide +kernel
theorem dX1_lineSteps_49 : decode cX1_lineSteps 49 = .ok (.iload_n 2, 1) := by decide +kernel
theorem dX1_lineSteps_50 : decode cX1_lineSteps 50 = .ok (.goto 20, 3) := by decide +kernel
theorem dX1_lineSteps_53 : decode cX1_lineSteps 53 = .ok (.iload_n 2, 1) := by decide +kernel
theorem dX1_lineSteps_54 : decode cX1_lineSteps 54 = .ok (.iload 5, 2) := by decide +kernel
theorem dX1_lineSteps_56 : decode cX1_lineSteps 56 = .ok (.invokestatic 66, 3) := by decide +kernel
theorem dX1_lineSteps_59 : decode cX1_lineSteps 59 = .ok (.iadd, 1) := by decide +kernel
theorem dX1_lineSteps_60 : decode cX1_lineSteps 60 = .ok (.iload_n 3, 1) := by decide +kernel
theorem dX1_lineSteps_61 : decode cX1_lineSteps 61 = .ok (.ifCond .le 7, 3) := by decide +kernel
theorem dX1_lineSteps_64 : decode cX1_lineSteps 64 = .ok (.iconst 1, 1) := by decide +kernel
theorem dX1_lineSteps_65 : decode cX1_lineSteps 65 = .ok (.goto 4, 3) := by decide +kernel
theorem dX1_lineSteps_68 : decode cX1_lineSteps 68 = .ok (.iconst 0, 1) := by decide +kernel
theorem dX1_lineSteps_69 : decode cX1_lineSteps 69 = .ok (.iadd, 1) := by decide +kernel
theorem dX1_lineSteps_70 : decode cX1_lineSteps 70 = .ok (.istore_n 2, 1) := by decide +kernel
theorem dX1_lineSteps_71 : decode cX1_lineSteps 71 = .ok (.iload 5, 2) := by decide +kernel
theorem dX1_lineSteps_73 : decode cX1_lineSteps 73 = .ok (.ifCond .ne 7, 3) := by decide +kernel
theorem dX1_lineSteps_76 : decode cX1_lineSteps 76 = .ok (.iload_n 3, 1) := by decide +kernel
theorem dX1_lineSteps_77 : decode cX1_lineSteps 77 = .ok (.goto 6, 3) := by decide +kernel
theorem dX1_lineSteps_80 : decode cX1_lineSteps 80 = .ok (.iload_n 3, 1) := by decide +kernel
theorem dX1_lineSteps_81 : decode cX1_lineSteps 81 = .ok (.iconst 1, 1) := by decide +kernel
theorem dX1_lineSteps_82 : decode cX1_lineSteps 82 = .ok (.iadd, 1) := by decide +kernel
theorem dX1_lineSteps_83 : decode cX1_lineSteps 83 = .ok (.istore_n 3, 1) := by decide +kernel
theorem dX1_lineSteps_84 : decode cX1_lineSteps 84 = .ok (.iload_n 1, 1) := by decide +kernel
theorem dX1_lineSteps_85 : decode cX1_lineSteps 85 = .ok (.aload_n 0, 1) := by decide +kernel
theorem dX1_lineSteps_86 : decode cX1_lineSteps 86 = .ok (.getfield 40, 3) := by decide +kernel
theorem dX1_lineSteps_89 : decode cX1_lineSteps 89 = .ok (.if_icmp .ge 33, 3) := by decide +kernel
theorem dX1_lineSteps_92 : decode cX1_lineSteps 92 = .ok (.iload 4, 2) := by decide +kernel
theorem dX1_lineSteps_94 : decode cX1_lineSteps 94 = .ok (.iconst 1, 1) := by decide +kernel
theorem dX1_lineSteps_95 : decode cX1_lineSteps 95 = .ok (.iadd, 1) := by decide +kernel
theorem dX1_lineSteps_96 : decode cX1_lineSteps 96 = .ok (.aload_n 0, 1) := by decide +kernel
theorem dX1_lineSteps_97 : decode cX1_lineSteps 97 = .ok (.getfield 36, 3) := by decide +kernel
theorem dX1_lineSteps_100 : decode cX1_lineSteps 100 = .ok (.if_icmp .ge 22, 3) := by decide +kernel
theorem dX1_lineSteps_103 : decode cX1_lineSteps 103 = .ok (.aload_n 0, 1) := by decide +kernel
theorem dX1_lineSteps_104 : decode cX1_lineSteps 104 = .ok (.getfield 19, 3) := by decide +kernel
theorem dX1_lineSteps_107 : decode cX1_lineSteps 107 = .ok (.bipush 13, 2) := by decide +kernel
theorem dX1_lineSteps_109 : decode cX1_lineSteps 109 = .ok (.iload 4, 2) := by decide +kernel
theorem dX1_lineSteps_111 : decode cX1_lineSteps 111 = .ok (.imul, 1) := by decide +kernel
theorem dX1_lineSteps_112 : decode cX1_lineSteps 112 = .ok (.iload_n 1, 1) := by decide +kernel
theorem dX1_lineSteps_113 : decode cX1_lineSteps 113 = .ok (.iadd, 1) := by decide +kernel
theorem dX1_lineSteps_114 : decode cX1_lineSteps 114 = .ok (.baload, 1) := by decide +kernel
theorem dX1_lineSteps_115 : decode cX1_lineSteps 115 = .ok (.ifCond .eq 7, 3) := by decide +kernel
theorem dX1_lineSteps_118 : decode cX1_lineSteps 118 = .ok (.iconst 1, 1) := by decide +kernel
theorem dX1_lineSteps_119 : decode cX1_lineSteps 119 = .ok (.goto 4, 3) := by decide +kernel
theorem dX1_lineSteps_122 : decode cX1_lineSteps 122 = .ok (.iconst 0, 1) := by decide +kernel
theorem dX1_lineSteps_123 : decode cX1_lineSteps 123 = .ok (.istore 6, 2) := by decide +kernel
theorem dX1_lineSteps_125 : decode cX1_lineSteps 125 = .ok (.iload 6, 2) := by decide +kernel
theorem dX1_lineSteps_127 : decode cX1_lineSteps 127 = .ok (.ifCond .ne 19, 3) := by decide +kernel
theorem dX1_lineSteps_130 : decode cX1_lineSteps 130 = .ok (.iload_n 3, 1) := by decide +kernel
theorem dX1_lineSteps_131 : decode cX1_lineSteps 131 = .ok (.ifCond .ne 9, 3) := by decide +kernel
theorem dX1_lineSteps_134 : decode cX1_lineSteps 134 = .ok (.iload_n 2, 1) := by decide +kernel
theorem dX1_lineSteps_135 : decode cX1_lineSteps 135 = .ok (.iconst 2, 1) := by decide +kernel
theorem dX1_lineSteps_136 : decode cX1_lineSteps 136 = .ok (.iadd, 1) := by decide +kernel
theorem dX1_lineSteps_137 : decode cX1_lineSteps 137 = .ok (.goto 6, 3) := by decide +kernel
theorem dX1_lineSteps_140 : decode cX1_lineSteps 140 = .ok (.iload_n 2, 1) := by decide +kernel
theorem dX1_lineSteps_141 : decode cX1_lineSteps 141 = .ok (.iconst 1, 1) := by decide +kernel
theorem dX1_lineSteps_142 : decode cX1_lineSteps 142 = .ok (.iadd, 1) := by decide +kernel
theorem dX1_lineSteps_143 : decode cX1_lineSteps 143 = .ok (.istore_n 2, 1) := by decide +kernel
theorem dX1_lineSteps_144 : decode cX1_lineSteps 144 = .ok (.iconst 0, 1) := by decide +kernel
theorem dX1_lineSteps_145 : decode cX1_lineSteps 145 = .ok (.istore_n 3, 1) := by decide +kernel
theorem dX1_lineSteps_146 : decode cX1_lineSteps 146 = .ok (.iinc 4 1, 3) := by decide +kernel
theorem dX1_lineSteps_149 : decode cX1_lineSteps 149 = .ok (.goto (-142), 3) := by decide +kernel
theorem dX1_lineSteps_152 : decode cX1_lineSteps 152 = .ok (.iload_n 2, 1) := by decide +kernel
theorem dX1_lineSteps_153 : decode cX1_lineSteps 153 = .ok (.ireturn, 1) := by decide +kernel
set_option maxRecDepth 20000 in
theorem ggX1_steps_X1_lineSteps : GoodIn wsX1_steps wsX1_lineSteps := goodIn_r _ [8, 2, 3, 1, 9, 10, 11, 7, 12, 13, 14, 15, 16, 17, 18, 19, 20, 21, 22] (by decide +kernel) (by decide +kernel)
set_option maxRecDepth 20000 in
theorem gX1_steps_X1_lineSteps : GoodIn wsX1_steps (wsV RX1 70 RX1 yX1_lineSteps wsX1_lineSteps) := goodIn_app (goodIn_of _ (by decide +kernel)) ggX1_steps_X1_lineSteps
theorem dX1_steps_0 : decode cX1_steps 0 = .ok (.iconst 0, 1) := by decide +kernel
theorem dX1_steps_1 : decode cX1_steps 1 = .ok (.istore_n 1, 1) := by decide +kernel
theorem dX1_steps_2 : decode cX1_steps 2 = .ok (.iconst 1, 1) := by decide +kernel
theorem dX1_steps_3 : decode cX1_steps 3 = .ok (.istore_n 2, 1) := by decide +kernel
theorem dX1_steps_4 : decode cX1_steps 4 = .ok (.iload_n 2, 1) := by decide +kernel
theorem dX1_steps_5 : decode cX1_steps 5 = .ok (.aload_n 0, 1) := by decide +kernel
theorem dX1_steps_6 : decode cX1_steps 6 = .ok (.getfield 40, 3) := by decide +kernel
theorem dX1_steps_9 : decode cX1_steps 9 = .ok (.if_icmp .gt 17, 3) := by decide +kernel
theorem dX1_steps_12 : decode cX1_steps 12 = .ok (.iload_n 1, 1) := by decide +kernel
theorem dX1_steps_13 : decode cX1_steps 13 = .ok (.aload_n 0, 1) := by decide +kernel
theorem dX1_steps_14 : decode cX1_steps 14 = .ok (.iload_n 2, 1) := by decide +kernel
theorem dX1_steps_15 : decode cX1_steps 15 = .ok (.invokevirtual 70, 3) := by decide +kernel
theorem dX1_steps_18 : decode cX1_steps 18 = .ok (.iadd, 1) := by decide +kernel
theorem dX1_steps_19 : decode cX1_steps 19 = .ok (.istore_n 1, 1) := by decide +kernel
theorem dX1_steps_20 : decode cX1_steps 20 = .ok (.iinc 2 1, 3) := by decide +kernel
theorem dX1_steps_23 : decode cX1_steps 23 = .ok (.goto (-19), 3) := by decide +kernel
theorem dX1_steps_26 : decode cX1_steps 26 = .ok (.iconst 0, 1) := by decide +kernel
theorem dX1_steps_27 : decode cX1_steps 27 = .ok (.istore_n 2, 1) := by decide +kernel
theorem dX1_steps_28 : decode cX1_steps 28 = .ok (.iload_n 2, 1) := by decide +kernel
theorem dX1_steps_29 : decode cX1_steps 29 = .ok (.aload_n 0, 1) := by decide +kernel
theorem dX1_steps_30 : decode cX1_steps 30 = .ok (.getfield 36, 3) := by decide +kernel
theorem dX1_steps_33 : decode cX1_steps 33 = .ok (.if_icmp .ge 42, 3) := by decide +kernel
theorem dX1_steps_36 : decode cX1_steps 36 = .ok (.aload_n 0, 1) := by decide +kernel
theorem dX1_steps_37 : decode cX1_steps 37 = .ok (.getfield 7, 3) := by decide +kernel
theorem dX1_steps_40 : decode cX1_steps 40 = .ok (.bipush 12, 2) := by decide +kernel
theorem dX1_steps_42 : decode cX1_steps 42 = .ok (.iload_n 2, 1) := by decide +kernel
theorem dX1_steps_43 : decode cX1_steps 43 = .ok (.imul, 1) := by decide +kernel
theorem dX1_steps_44 : decode cX1_steps 44 = .ok (.aload_n 0, 1) := by decide +kernel
theorem dX1_steps_45 : decode cX1_steps 45 = .ok (.getfield 40, 3) := by decide +kernel
theorem dX1_steps_48 : decode cX1_steps 48 = .ok (.iadd, 1) := by decide +kernel
theorem dX1_steps_49 : decode cX1_steps 49 = .ok (.iconst 1, 1) := by decide +kernel
theorem dX1_steps_50 : decode cX1_steps 50 = .ok (.isub, 1) := by decide +kernel
theorem dX1_steps_51 : decode cX1_steps 51 = .ok (.iaload, 1) := by decide +kernel
theorem dX1_steps_52 : decode cX1_steps 52 = .ok (.istore_n 3, 1) := by decide +kernel
theorem dX1_steps_53 : decode cX1_steps 53 = .ok (.iload_n 3, 1) := by decide +kernel
theorem dX1_steps_54 : decode cX1_steps 54 = .ok (.bipush 6, 2) := by decide +kernel
theorem dX1_steps_56 : decode cX1_steps 56 = .ok (.if_icmp .lt 11, 3) := by decide +kernel
theorem dX1_steps_59 : decode cX1_steps 59 = .ok (.iload_n 1, 1) := by decide +kernel
theorem dX1_steps_60 : decode cX1_steps 60 = .ok (.iload_n 3, 1) := by decide +kernel
theorem dX1_steps_61 : decode cX1_steps 61 = .ok (.iadd, 1) := by decide +kernel
theorem dX1_steps_62 : decode cX1_steps 62 = .ok (.iconst 4, 1) := by decide +kernel
theorem dX1_steps_63 : decode cX1_steps 63 = .ok (.isub, 1) := by decide +kernel
theorem dX1_steps_64 : decode cX1_steps 64 = .ok (.goto 4, 3) := by decide +kernel
theorem dX1_steps_67 : decode cX1_steps 67 = .ok (.iload_n 1, 1) := by decide +kernel
theorem dX1_steps_68 : decode cX1_steps 68 = .ok (.istore_n 1, 1) := by decide +kernel
theorem dX1_steps_69 : decode cX1_steps 69 = .ok (.iinc 2 1, 3) := by decide +kernel
theorem dX1_steps_72 : decode cX1_steps 72 = .ok (.goto (-44), 3) := by decide +kernel
theorem dX1_steps_75 : decode cX1_steps 75 = .ok (.iload_n 1, 1) := by decide +kernel
theorem dX1_steps_76 : decode cX1_steps 76 = .ok (.ireturn, 1) := by decide +kernel
theorem dX1_groups_0 : decode cX1_groups 0 = .ok (.iload_n 1, 1) := by decide +kernel
theorem dX1_groups_1 : decode cX1_groups 1 = .ok (.ifCond .lt 11, 3) := by decide +kernel
theorem dX1_groups_4 : decode cX1_groups 4 = .ok (.iload_n 1, 1) := by decide +kernel
theorem dX1_groups_5 : decode cX1_groups 5 = .ok (.aload_n 0, 1) := by decide +kernel
theorem dX1_groups_6 : decode cX1_groups 6 = .ok (.getfield 40, 3) := by decide +kernel
theorem dX1_groups_9 : decode cX1_groups 9 = .ok (.if_icmp .le 5, 3) := by decide +kernel
theorem dX1_groups_12 : decode cX1_groups 12 = .ok (.iconst (-1), 1) := by decide +kernel
theorem dX1_groups_13 : decode cX1_groups 13 = .ok (.ireturn, 1) := by decide +kernel
theorem dX1_groups_14 : decode cX1_groups 14 = .ok (.aload_n 0, 1) := by decide +kernel
theorem dX1_groups_15 : decode cX1_groups 15 = .ok (.getfield 36, 3) := by decide +kernel
theorem dX1_groups_18 : decode cX1_groups 18 = .ok (.istore_n 2, 1) := by decide +kernel
theorem dX1_groups_19 : decode cX1_groups 19 = .ok (.iconst 0, 1) := by decide +kernel
theorem dX1_groups_20 : decode cX1_groups 20 = .ok (.istore_n 3, 1) := by decide +kernel
theorem dX1_groups_21 : decode cX1_groups 21 = .ok (.iload_n 3, 1) := by decide +kernel
theorem dX1_groups_22 : decode cX1_groups 22 = .ok (.iconst 1, 1) := by decide +kernel
theorem dX1_groups_23 : decode cX1_groups 23 = .ok (.iadd, 1) := by decide +kernel
theorem dX1_groups_24 : decode cX1_groups 24 = .ok (.aload_n 0, 1) := by decide +kernel
theorem dX1_groups_25 : decode cX1_groups 25 = .ok (.getfield 36, 3) := by decide +kernel
theorem dX1_groups_28 : decode cX1_groups 28 = .ok (.if_icmp .ge 43, 3) := by decide +kernel
theorem dX1_groups_31 : decode cX1_groups 31 = .ok (.iload_n 1, 1) := by decide +kernel
theorem dX1_groups_32 : decode cX1_groups 32 = .ok (.ifCond .le 31, 3) := by decide +kernel
theorem dX1_groups_35 : decode cX1_groups 35 = .ok (.iload_n 1, 1) := by decide +kernel
theorem dX1_groups_36 : decode cX1_groups 36 = .ok (.aload_n 0, 1) := by decide +kernel
theorem dX1_groups_37 : decode cX1_groups 37 = .ok (.getfield 40, 3) := by decide +kernel
theorem dX1_groups_40 : decode cX1_groups 40 = .ok (.if_icmp .ge 23, 3) := by decide +kernel
theorem dX1_groups_43 : decode cX1_groups 43 = .ok (.aload_n 0, 1) := by decide +kernel
theorem dX1_groups_44 : decode cX1_groups 44 = .ok (.getfield 19, 3) := by decide +kernel
theorem dX1_groups_47 : decode cX1_groups 47 = .ok (.bipush 13, 2) := by decide +kernel
theorem dX1_groups_49 : decode cX1_groups 49 = .ok (.iload_n 3, 1) := by decide +kernel
theorem dX1_groups_50 : decode cX1_groups 50 = .ok (.imul, 1) := by decide +kernel
theorem dX1_groups_51 : decode cX1_groups 51 = .ok (.iload_n 1, 1) := by decide +kernel
theorem dX1_groups_52 : decode cX1_groups 52 = .ok (.iadd, 1) := by decide +kernel
theorem dX1_groups_53 : decode cX1_groups 53 = .ok (.baload, 1) := by decide +kernel
theorem dX1_groups_54 : decode cX1_groups 54 = .ok (.ifCond .eq 9, 3) := by decide +kernel
theorem dX1_groups_57 : decode cX1_groups 57 = .ok (.iload_n 2, 1) := by decide +kernel
theorem dX1_groups_58 : decode cX1_groups 58 = .ok (.iconst 1, 1) := by decide +kernel
theorem dX1_groups_59 : decode cX1_groups 59 = .ok (.isub, 1) := by decide +kernel
theorem dX1_groups_60 : decode cX1_groups 60 = .ok (.goto 4, 3) := by decide +kernel
theorem dX1_groups_63 : decode cX1_groups 63 = .ok (.iload_n 2, 1) := by decide +kernel
theorem dX1_groups_64 : decode cX1_groups 64 = .ok (.istore_n 2, 1) := by decide +kernel
theorem dX1_groups_65 : decode cX1_groups 65 = .ok (.iinc 3 1, 3) := by decide +kernel
theorem dX1_groups_68 : decode cX1_groups 68 = .ok (.goto (-47), 3) := by decide +kernel
theorem dX1_groups_71 : decode cX1_groups 71 = .ok (.iload_n 2, 1) := by decide +kernel
theorem dX1_groups_72 : decode cX1_groups 72 = .ok (.ireturn, 1) := by decide +kernel
theorem dJ7_fill_53178_0 : decode cJ7_fill_53178 0 = .ok (.iconst 0, 1) := by decide +kernel
theorem dJ7_fill_53178_1 : decode cJ7_fill_53178 1 = .ok (.istore_n 2, 1) := by decide +kernel
theorem dJ7_fill_53178_2 : decode cJ7_fill_53178 2 = .ok (.aload_n 0, 1) := by decide +kernel
theorem dJ7_fill_53178_3 : decode cJ7_fill_53178 3 = .ok (.arraylength, 1) := by decide +kernel
theorem dJ7_fill_53178_4 : decode cJ7_fill_53178 4 = .ok (.istore_n 3, 1) := by decide +kernel
theorem dJ7_fill_53178_5 : decode cJ7_fill_53178 5 = .ok (.iload_n 2, 1) := by decide +kernel
theorem dJ7_fill_53178_6 : decode cJ7_fill_53178 6 = .ok (.iload_n 3, 1) := by decide +kernel
theorem dJ7_fill_53178_7 : decode cJ7_fill_53178 7 = .ok (.if_icmp .ge 13, 3) := by decide +kernel
theorem dJ7_fill_53178_10 : decode cJ7_fill_53178 10 = .ok (.aload_n 0, 1) := by decide +kernel
theorem dJ7_fill_53178_11 : decode cJ7_fill_53178 11 = .ok (.iload_n 2, 1) := by decide +kernel
theorem dJ7_fill_53178_12 : decode cJ7_fill_53178 12 = .ok (.iload_n 1, 1) := by decide +kernel
theorem dJ7_fill_53178_13 : decode cJ7_fill_53178 13 = .ok (.iastore, 1) := by decide +kernel
theorem dJ7_fill_53178_14 : decode cJ7_fill_53178 14 = .ok (.iinc 2 1, 3) := by decide +kernel
theorem dJ7_fill_53178_17 : decode cJ7_fill_53178 17 = .ok (.goto (-12), 3) := by decide +kernel
theorem dJ7_fill_53178_20 : decode cJ7_fill_53178 20 = .ok (.return_, 1) := by decide +kernel
set_option maxRecDepth 20000 in
theorem ggL_law_X0_init : GoodIn wsL_law wsX0_init := goodIn_r _ [8, 9, 10, 11, 12, 13, 14, 15, 16, 17, 18, 19, 20, 21, 193, 194, 195, 196, 197, 198, 199, 200, 201] (by decide +kernel) (by decide +kernel)
set_option maxRecDepth 20000 in
theorem gL_law_X0_init : GoodIn wsL_law (wsX0_init) := ggL_law_X0_init
set_option maxRecDepth 20000 in
theorem ggL_law_X1_init : GoodIn wsL_law wsX1_init := goodIn_r _ [24, 25, 10, 11, 12, 26, 27, 28, 29, 30, 31, 32, 33, 34, 35, 36, 5, 37, 38, 39, 40, 202, 203, 204, 205, 206, 207, 208, 209, 210, 211] (by decide +kernel) (by decide +kernel)
set_option maxRecDepth 20000 in
theorem gL_law_X1_init : GoodIn wsL_law (wsX1_init) := ggL_law_X1_init
set_option maxRecDepth 20000 in
theorem ggL_law_X0_begin : GoodIn wsL_law wsX0_begin := goodIn_r _ [44, 19, 20, 13, 14, 15, 16, 21, 45, 46, 47, 48, 193, 194, 195, 196, 197, 198, 199, 200, 201] (by decide +kernel) (by decide +kernel)
set_option maxRecDepth 20000 in
theorem gL_law_X0_begin : GoodIn wsL_law (wsV RL 13 RX0 yX0_begin wsX0_begin) := goodIn_app (goodIn_of _ (by decide +kernel)) ggL_law_X0_begin
set_option maxRecDepth 20000 in
theorem ggL_law_X1_begin : GoodIn wsL_law wsX1_begin := goodIn_r _ [37, 38, 39, 26, 27, 28, 30, 40, 202, 203, 204, 205, 206, 207, 208, 209, 210, 211] (by decide +kernel) (by decide +kernel)
set_option maxRecDepth 20000 in
theorem gL_law_X1_begin : GoodIn wsL_law (wsV RL 17 RX1 yX1_begin wsX1_begin) := goodIn_app (goodIn_of _ (by decide +kernel)) ggL_law_X1_begin
set_option maxRecDepth 20000 in
theorem ggL_law_X0_cell : GoodIn wsL_law wsX0_cell := goodIn_r _ [53, 20, 13, 14, 15, 21, 54, 55, 56, 2, 57, 19, 58, 59, 60, 61, 62, 63, 64, 65, 66, 67, 68, 69, 193, 194, 195, 196, 197, 198, 199, 200, 201] (by decide +kernel) (by decide +kernel)
set_option maxRecDepth 20000 in
theorem gL_law_X0_cell : GoodIn wsL_law (wsV RL 18 RX0 yX0_cell wsX0_cell) := goodIn_app (goodIn_of _ (by decide +kernel)) ggL_law_X0_cell
set_option maxRecDepth 20000 in
theorem ggL_law_X1_cell : GoodIn wsL_law wsX1_cell := goodIn_r _ [73, 39, 26, 27, 28, 40, 74, 75, 76, 5, 77, 38, 78, 79, 80, 202, 203, 204, 205, 206, 207, 208, 209, 210, 211] (by decide +kernel) (by decide +kernel)
set_option maxRecDepth 20000 in
theorem gL_law_X1_cell : GoodIn wsL_law (wsV RL 22 RX1 yX1_cell wsX1_cell) := goodIn_app (goodIn_of _ (by decide +kernel)) ggL_law_X1_cell
set_option maxRecDepth 20000 in
theorem ggL_law_X0_link : GoodIn wsL_law wsX0_link := goodIn_r _ [84, 19, 20, 16, 21, 85, 86, 2, 87, 193, 194, 195, 196, 197, 198, 199, 200, 201] (by decide +kernel) (by decide +kernel)
set_option maxRecDepth 20000 in
theorem gL_law_X0_link : GoodIn wsL_law (wsV RL 23 RX0 yX0_link wsX0_link) := goodIn_app (goodIn_of _ (by decide +kernel)) ggL_law_X0_link
set_option maxRecDepth 20000 in
theorem ggL_law_X1_link : GoodIn wsL_law wsX1_link := goodIn_r _ [91, 38, 39, 30, 40, 202, 203, 204, 205, 206, 207, 208, 209, 210, 211] (by decide +kernel) (by decide +kernel)
set_option maxRecDepth 20000 in
theorem gL_law_X1_link : GoodIn wsL_law (wsV RL 27 RX1 yX1_link wsX1_link) := goodIn_app (goodIn_of _ (by decide +kernel)) ggL_law_X1_link
set_option maxRecDepth 20000 in
theorem ggL_law_X0_set : GoodIn wsL_law wsX0_set := goodIn_r _ [95, 18, 61, 62, 2, 63, 193, 194, 195, 196, 197, 198, 199, 200, 201] (by decide +kernel) (by decide +kernel)
set_option maxRecDepth 20000 in
theorem gL_law_X0_set : GoodIn wsL_law (wsV RL 28 RX0 yX0_set wsX0_set) := goodIn_app (goodIn_of _ (by decide +kernel)) ggL_law_X0_set
set_option maxRecDepth 20000 in
theorem ggL_law_X1_set : GoodIn wsL_law wsX1_set := goodIn_r _ [99, 31, 78, 79, 5, 80, 202, 203, 204, 205, 206, 207, 208, 209, 210, 211] (by decide +kernel) (by decide +kernel)
set_option maxRecDepth 20000 in
theorem gL_law_X1_set : GoodIn wsL_law (wsV RL 31 RX1 yX1_set wsX1_set) := goodIn_app (goodIn_of _ (by decide +kernel)) ggL_law_X1_set
set_option maxRecDepth 20000 in
theorem ggL_law_X0_get : GoodIn wsL_law wsX0_get := goodIn_r _ [103, 18, 61, 62, 2, 63, 193, 194, 195, 196, 197, 198, 199, 200, 201] (by decide +kernel) (by decide +kernel)
set_option maxRecDepth 20000 in
theorem gL_law_X0_get : GoodIn wsL_law (wsV RL 32 RX0 yX0_get wsX0_get) := goodIn_app (goodIn_of _ (by decide +kernel)) ggL_law_X0_get
set_option maxRecDepth 20000 in
theorem ggL_law_X1_get : GoodIn wsL_law wsX1_get := goodIn_r _ [107, 31, 78, 79, 5, 80, 202, 203, 204, 205, 206, 207, 208, 209, 210, 211] (by decide +kernel) (by decide +kernel)
set_option maxRecDepth 20000 in
theorem gL_law_X1_get : GoodIn wsL_law (wsV RL 36 RX1 yX1_get wsX1_get) := goodIn_app (goodIn_of _ (by decide +kernel)) ggL_law_X1_get
set_option maxRecDepth 20000 in
theorem ggL_law_X0_scan : GoodIn wsL_law wsX0_scan := goodIn_r _ [111, 19, 17, 20, 21, 85, 86, 2, 87, 112, 113, 114, 115, 18, 14, 13, 15, 67, 68, 69, 116, 117, 118, 119, 120, 121, 122, 16, 123, 124, 125, 126, 64, 65, 66, 127, 128, 129, 193, 194, 195, 196, 197, 198, 199, 200, 201] (by decide +kernel) (by decide +kernel)
set_option maxRecDepth 20000 in
theorem gL_law_X0_scan : GoodIn wsL_law (wsV RL 37 RX0 yX0_scan wsX0_scan) := goodIn_app (goodIn_of _ (by decide +kernel)) ggL_law_X0_scan
set_option maxRecDepth 20000 in
theorem ggL_law_X1_scan : GoodIn wsL_law wsX1_scan := goodIn_r _ [133, 32, 31, 38, 33, 39, 28, 27, 40, 134, 135, 136, 5, 137, 26, 138, 139, 140, 141, 30, 142, 143, 144, 145, 202, 203, 204, 205, 206, 207, 208, 209, 210, 211] (by decide +kernel) (by decide +kernel)
set_option maxRecDepth 20000 in
theorem gL_law_X1_scan : GoodIn wsL_law (wsV RL 41 RX1 yX1_scan wsX1_scan) := goodIn_app (goodIn_of _ (by decide +kernel)) ggL_law_X1_scan
set_option maxRecDepth 20000 in
theorem ggL_law_X0_power : GoodIn wsL_law wsX0_power := goodIn_r _ [149, 21, 20, 13, 17, 54, 55, 56, 2, 57, 19, 150, 151, 152, 153, 67, 68, 69, 64, 65, 66, 85, 86, 87, 193, 194, 195, 196, 197, 198, 199, 200, 201] (by decide +kernel) (by decide +kernel)
set_option maxRecDepth 20000 in
theorem gL_law_X0_power : GoodIn wsL_law (wsV RL 42 RX0 yX0_power wsX0_power) := goodIn_app (goodIn_of _ (by decide +kernel)) ggL_law_X0_power
set_option maxRecDepth 20000 in
theorem ggL_law_X1_power : GoodIn wsL_law wsX1_power := goodIn_r _ [157, 38, 39, 40, 26, 33, 202, 203, 204, 205, 206, 207, 208, 209, 210, 211] (by decide +kernel) (by decide +kernel)
set_option maxRecDepth 20000 in
theorem gL_law_X1_power : GoodIn wsL_law (wsV RL 45 RX1 yX1_power wsX1_power) := goodIn_app (goodIn_of _ (by decide +kernel)) ggL_law_X1_power
set_option maxRecDepth 20000 in
theorem ggL_law_X0_steps : GoodIn wsL_law wsX0_steps := goodIn_r _ [161, 20, 162, 163, 164, 2, 165, 19, 13, 166, 16, 67, 68, 69, 64, 65, 66, 85, 86, 87, 167, 168, 169, 170, 171, 172, 173, 193, 194, 195, 196, 197, 198, 199, 200, 201] (by decide +kernel) (by decide +kernel)
set_option maxRecDepth 20000 in
theorem gL_law_X0_steps : GoodIn wsL_law (wsV RL 46 RX0 yX0_steps wsX0_steps) := goodIn_app (goodIn_of _ (by decide +kernel)) ggL_law_X0_steps
set_option maxRecDepth 20000 in
theorem ggL_law_X1_steps : GoodIn wsL_law wsX1_steps := goodIn_r _ [177, 39, 38, 26, 178, 179, 180, 5, 181, 30, 182, 183, 184, 202, 203, 204, 205, 206, 207, 208, 209, 210, 211] (by decide +kernel) (by decide +kernel)
set_option maxRecDepth 20000 in
theorem gL_law_X1_steps : GoodIn wsL_law (wsV RL 49 RX1 yX1_steps wsX1_steps) := goodIn_app (goodIn_of _ (by decide +kernel)) ggL_law_X1_steps
set_option maxRecDepth 20000 in
theorem ggL_law_X0_groups : GoodIn wsL_law wsX0_groups := goodIn_r _ [188, 19, 16, 150, 151, 152, 2, 153, 20, 85, 86, 87, 193, 194, 195, 196, 197, 198, 199, 200, 201] (by decide +kernel) (by decide +kernel)
set_option maxRecDepth 20000 in
theorem gL_law_X0_groups : GoodIn wsL_law (wsV RL 50 RX0 yX0_groups wsX0_groups) := goodIn_app (goodIn_of _ (by decide +kernel)) ggL_law_X0_groups
set_option maxRecDepth 20000 in
theorem ggL_law_X1_groups : GoodIn wsL_law wsX1_groups := goodIn_r _ [192, 39, 38, 30, 202, 203, 204, 205, 206, 207, 208, 209, 210, 211] (by decide +kernel) (by decide +kernel)
set_option maxRecDepth 20000 in
theorem gL_law_X1_groups : GoodIn wsL_law (wsV RL 53 RX1 yX1_groups wsX1_groups) := goodIn_app (goodIn_of _ (by decide +kernel)) ggL_law_X1_groups
theorem dL_law_0 : decode cL_law 0 = .ok (.new 7, 3) := by decide +kernel
theorem dL_law_3 : decode cL_law 3 = .ok (.dup, 1) := by decide +kernel
theorem dL_law_4 : decode cL_law 4 = .ok (.invokespecial 9, 3) := by decide +kernel
theorem dL_law_7 : decode cL_law 7 = .ok (.astore_n 1, 1) := by decide +kernel
theorem dL_law_8 : decode cL_law 8 = .ok (.new 10, 3) := by decide +kernel
theorem dL_law_11 : decode cL_law 11 = .ok (.dup, 1) := by decide +kernel
theorem dL_law_12 : decode cL_law 12 = .ok (.invokespecial 12, 3) := by decide +kernel
theorem dL_law_15 : decode cL_law 15 = .ok (.astore_n 2, 1) := by decide +kernel
theorem dL_law_16 : decode cL_law 16 = .ok (.iconst 0, 1) := by decide +kernel
theorem dL_law_17 : decode cL_law 17 = .ok (.istore_n 3, 1) := by decide +kernel
theorem dL_law_18 : decode cL_law 18 = .ok (.iload_n 3, 1) := by decide +kernel
theorem dL_law_19 : decode cL_law 19 = .ok (.aload_n 0, 1) := by decide +kernel
theorem dL_law_20 : decode cL_law 20 = .ok (.arraylength, 1) := by decide +kernel
theorem dL_law_21 : decode cL_law 21 = .ok (.iconst 5, 1) := by decide +kernel
theorem dL_law_22 : decode cL_law 22 = .ok (.isub, 1) := by decide +kernel
theorem dL_law_23 : decode cL_law 23 = .ok (.if_icmp .gt 350, 3) := by decide +kernel
theorem dL_law_26 : decode cL_law 26 = .ok (.aload_n 0, 1) := by decide +kernel
theorem dL_law_27 : decode cL_law 27 = .ok (.iload_n 3, 1) := by decide +kernel
theorem dL_law_28 : decode cL_law 28 = .ok (.iaload, 1) := by decide +kernel
theorem dL_law_29 : decode cL_law 29 = .ok (.bipush 15, 2) := by decide +kernel
theorem dL_law_31 : decode cL_law 31 = .ok (.iand, 1) := by decide +kernel
theorem dL_law_32 : decode cL_law 32 = .ok (.tableswitch 335 0 8 #[52, 85, 138, 197, 230, 253, 266, 299, 312], 52) := by decide +kernel
theorem dL_law_84 : decode cL_law 84 = .ok (.aload_n 1, 1) := by decide +kernel
theorem dL_law_85 : decode cL_law 85 = .ok (.aload_n 0, 1) := by decide +kernel
theorem dL_law_86 : decode cL_law 86 = .ok (.iload_n 3, 1) := by decide +kernel
theorem dL_law_87 : decode cL_law 87 = .ok (.iconst 1, 1) := by decide +kernel
theorem dL_law_88 : decode cL_law 88 = .ok (.iadd, 1) := by decide +kernel
theorem dL_law_89 : decode cL_law 89 = .ok (.iaload, 1) := by decide +kernel
theorem dL_law_90 : decode cL_law 90 = .ok (.aload_n 0, 1) := by decide +kernel
theorem dL_law_91 : decode cL_law 91 = .ok (.iload_n 3, 1) := by decide +kernel
theorem dL_law_92 : decode cL_law 92 = .ok (.iconst 2, 1) := by decide +kernel
theorem dL_law_93 : decode cL_law 93 = .ok (.iadd, 1) := by decide +kernel
theorem dL_law_94 : decode cL_law 94 = .ok (.iaload, 1) := by decide +kernel
theorem dL_law_95 : decode cL_law 95 = .ok (.invokevirtual 13, 3) := by decide +kernel
theorem dL_law_98 : decode cL_law 98 = .ok (.aload_n 2, 1) := by decide +kernel
theorem dL_law_99 : decode cL_law 99 = .ok (.aload_n 0, 1) := by decide +kernel
theorem dL_law_100 : decode cL_law 100 = .ok (.iload_n 3, 1) := by decide +kernel
theorem dL_law_101 : decode cL_law 101 = .ok (.iconst 1, 1) := by decide +kernel
theorem dL_law_102 : decode cL_law 102 = .ok (.iadd, 1) := by decide +kernel
theorem dL_law_103 : decode cL_law 103 = .ok (.iaload, 1) := by decide +kernel
theorem dL_law_104 : decode cL_law 104 = .ok (.aload_n 0, 1) := by decide +kernel
theorem dL_law_105 : decode cL_law 105 = .ok (.iload_n 3, 1) := by decide +kernel
theorem dL_law_106 : decode cL_law 106 = .ok (.iconst 2, 1) := by decide +kernel
theorem dL_law_107 : decode cL_law 107 = .ok (.iadd, 1) := by decide +kernel
theorem dL_law_108 : decode cL_law 108 = .ok (.iaload, 1) := by decide +kernel
theorem dL_law_109 : decode cL_law 109 = .ok (.invokevirtual 17, 3) := by decide +kernel
theorem dL_law_112 : decode cL_law 112 = .ok (.if_icmp .eq 255, 3) := by decide +kernel
theorem dL_law_115 : decode cL_law 115 = .ok (.iconst 0, 1) := by decide +kernel
theorem dL_law_116 : decode cL_law 116 = .ok (.ireturn, 1) := by decide +kernel
theorem dL_law_117 : decode cL_law 117 = .ok (.aload_n 1, 1) := by decide +kernel
theorem dL_law_118 : decode cL_law 118 = .ok (.aload_n 0, 1) := by decide +kernel
theorem dL_law_119 : decode cL_law 119 = .ok (.iload_n 3, 1) := by decide +kernel
theorem dL_law_120 : decode cL_law 120 = .ok (.iconst 1, 1) := by decide +kernel
theorem dL_law_121 : decode cL_law 121 = .ok (.iadd, 1) := by decide +kernel
theorem dL_law_122 : decode cL_law 122 = .ok (.iaload, 1) := by decide +kernel
theorem dL_law_123 : decode cL_law 123 = .ok (.aload_n 0, 1) := by decide +kernel
theorem dL_law_124 : decode cL_law 124 = .ok (.iload_n 3, 1) := by decide +kernel
theorem dL_law_125 : decode cL_law 125 = .ok (.iconst 2, 1) := by decide +kernel
theorem dL_law_126 : decode cL_law 126 = .ok (.iadd, 1) := by decide +kernel
theorem dL_law_127 : decode cL_law 127 = .ok (.iaload, 1) := by decide +kernel
theorem dL_law_128 : decode cL_law 128 = .ok (.aload_n 0, 1) := by decide +kernel
theorem dL_law_129 : decode cL_law 129 = .ok (.iload_n 3, 1) := by decide +kernel
theorem dL_law_130 : decode cL_law 130 = .ok (.iconst 3, 1) := by decide +kernel
theorem dL_law_131 : decode cL_law 131 = .ok (.iadd, 1) := by decide +kernel
theorem dL_law_132 : decode cL_law 132 = .ok (.iaload, 1) := by decide +kernel
theorem dL_law_133 : decode cL_law 133 = .ok (.aload_n 0, 1) := by decide +kernel
theorem dL_law_134 : decode cL_law 134 = .ok (.iload_n 3, 1) := by decide +kernel
theorem dL_law_135 : decode cL_law 135 = .ok (.iconst 4, 1) := by decide +kernel
theorem dL_law_136 : decode cL_law 136 = .ok (.iadd, 1) := by decide +kernel
theorem dL_law_137 : decode cL_law 137 = .ok (.iaload, 1) := by decide +kernel
theorem dL_law_138 : decode cL_law 138 = .ok (.invokevirtual 18, 3) := by decide +kernel
theorem dL_law_141 : decode cL_law 141 = .ok (.aload_n 2, 1) := by decide +kernel
theorem dL_law_142 : decode cL_law 142 = .ok (.aload_n 0, 1) := by decide +kernel
theorem dL_law_143 : decode cL_law 143 = .ok (.iload_n 3, 1) := by decide +kernel
theorem dL_law_144 : decode cL_law 144 = .ok (.iconst 1, 1) := by decide +kernel
theorem dL_law_145 : decode cL_law 145 = .ok (.iadd, 1) := by decide +kernel
theorem dL_law_146 : decode cL_law 146 = .ok (.iaload, 1) := by decide +kernel
theorem dL_law_147 : decode cL_law 147 = .ok (.aload_n 0, 1) := by decide +kernel
theorem dL_law_148 : decode cL_law 148 = .ok (.iload_n 3, 1) := by decide +kernel
theorem dL_law_149 : decode cL_law 149 = .ok (.iconst 2, 1) := by decide +kernel
theorem dL_law_150 : decode cL_law 150 = .ok (.iadd, 1) := by decide +kernel
theorem dL_law_151 : decode cL_law 151 = .ok (.iaload, 1) := by decide +kernel
theorem dL_law_152 : decode cL_law 152 = .ok (.aload_n 0, 1) := by decide +kernel
theorem dL_law_153 : decode cL_law 153 = .ok (.iload_n 3, 1) := by decide +kernel
theorem dL_law_154 : decode cL_law 154 = .ok (.iconst 3, 1) := by decide +kernel
theorem dL_law_155 : decode cL_law 155 = .ok (.iadd, 1) := by decide +kernel
theorem dL_law_156 : decode cL_law 156 = .ok (.iaload, 1) := by decide +kernel
theorem dL_law_157 : decode cL_law 157 = .ok (.aload_n 0, 1) := by decide +kernel
theorem dL_law_158 : decode cL_law 158 = .ok (.iload_n 3, 1) := by decide +kernel
theorem dL_law_159 : decode cL_law 159 = .ok (.iconst 4, 1) := by decide +kernel
theorem dL_law_160 : decode cL_law 160 = .ok (.iadd, 1) := by decide +kernel
theorem dL_law_161 : decode cL_law 161 = .ok (.iaload, 1) := by decide +kernel
theorem dL_law_162 : decode cL_law 162 = .ok (.invokevirtual 22, 3) := by decide +kernel
theorem dL_law_165 : decode cL_law 165 = .ok (.if_icmp .eq 202, 3) := by decide +kernel
theorem dL_law_168 : decode cL_law 168 = .ok (.iconst 0, 1) := by decide +kernel
theorem dL_law_169 : decode cL_law 169 = .ok (.ireturn, 1) := by decide +kernel
theorem dL_law_170 : decode cL_law 170 = .ok (.aload_n 1, 1) := by decide +kernel
theorem dL_law_171 : decode cL_law 171 = .ok (.aload_n 0, 1) := by decide +kernel
theorem dL_law_172 : decode cL_law 172 = .ok (.iload_n 3, 1) := by decide +kernel
theorem dL_law_173 : decode cL_law 173 = .ok (.iconst 1, 1) := by decide +kernel
theorem dL_law_174 : decode cL_law 174 = .ok (.iadd, 1) := by decide +kernel
theorem dL_law_175 : decode cL_law 175 = .ok (.iaload, 1) := by decide +kernel
theorem dL_law_176 : decode cL_law 176 = .ok (.aload_n 0, 1) := by decide +kernel
theorem dL_law_177 : decode cL_law 177 = .ok (.iload_n 3, 1) := by decide +kernel
theorem dL_law_178 : decode cL_law 178 = .ok (.iconst 2, 1) := by decide +kernel
theorem dL_law_179 : decode cL_law 179 = .ok (.iadd, 1) := by decide +kernel
theorem dL_law_180 : decode cL_law 180 = .ok (.iaload, 1) := by decide +kernel
theorem dL_law_181 : decode cL_law 181 = .ok (.aload_n 0, 1) := by decide +kernel
theorem dL_law_182 : decode cL_law 182 = .ok (.iload_n 3, 1) := by decide +kernel
theorem dL_law_183 : decode cL_law 183 = .ok (.iconst 3, 1) := by decide +kernel
theorem dL_law_184 : decode cL_law 184 = .ok (.iadd, 1) := by decide +kernel
theorem dL_law_185 : decode cL_law 185 = .ok (.iaload, 1) := by decide +kernel
theorem dL_law_186 : decode cL_law 186 = .ok (.ifCond .eq 7, 3) := by decide +kernel
theorem dL_law_189 : decode cL_law 189 = .ok (.iconst 1, 1) := by decide +kernel
theorem dL_law_190 : decode cL_law 190 = .ok (.goto 4, 3) := by decide +kernel
theorem dL_law_193 : decode cL_law 193 = .ok (.iconst 0, 1) := by decide +kernel
theorem dL_law_194 : decode cL_law 194 = .ok (.invokevirtual 23, 3) := by decide +kernel
theorem dL_law_197 : decode cL_law 197 = .ok (.aload_n 2, 1) := by decide +kernel
theorem dL_law_198 : decode cL_law 198 = .ok (.aload_n 0, 1) := by decide +kernel
theorem dL_law_199 : decode cL_law 199 = .ok (.iload_n 3, 1) := by decide +kernel
theorem dL_law_200 : decode cL_law 200 = .ok (.iconst 1, 1) := by decide +kernel
theorem dL_law_201 : decode cL_law 201 = .ok (.iadd, 1) := by decide +kernel
theorem dL_law_202 : decode cL_law 202 = .ok (.iaload, 1) := by decide +kernel
theorem dL_law_203 : decode cL_law 203 = .ok (.aload_n 0, 1) := by decide +kernel
theorem dL_law_204 : decode cL_law 204 = .ok (.iload_n 3, 1) := by decide +kernel
theorem dL_law_205 : decode cL_law 205 = .ok (.iconst 2, 1) := by decide +kernel
theorem dL_law_206 : decode cL_law 206 = .ok (.iadd, 1) := by decide +kernel
theorem dL_law_207 : decode cL_law 207 = .ok (.iaload, 1) := by decide +kernel
theorem dL_law_208 : decode cL_law 208 = .ok (.aload_n 0, 1) := by decide +kernel
theorem dL_law_209 : decode cL_law 209 = .ok (.iload_n 3, 1) := by decide +kernel
theorem dL_law_210 : decode cL_law 210 = .ok (.iconst 3, 1) := by decide +kernel
theorem dL_law_211 : decode cL_law 211 = .ok (.iadd, 1) := by decide +kernel
theorem dL_law_212 : decode cL_law 212 = .ok (.iaload, 1) := by decide +kernel
theorem dL_law_213 : decode cL_law 213 = .ok (.ifCond .eq 7, 3) := by decide +kernel
theorem dL_law_216 : decode cL_law 216 = .ok (.iconst 1, 1) := by decide +kernel
theorem dL_law_217 : decode cL_law 217 = .ok (.goto 4, 3) := by decide +kernel
theorem dL_law_220 : decode cL_law 220 = .ok (.iconst 0, 1) := by decide +kernel
theorem dL_law_221 : decode cL_law 221 = .ok (.invokevirtual 27, 3) := by decide +kernel
theorem dL_law_224 : decode cL_law 224 = .ok (.if_icmp .eq 143, 3) := by decide +kernel
theorem dL_law_227 : decode cL_law 227 = .ok (.iconst 0, 1) := by decide +kernel
theorem dL_law_228 : decode cL_law 228 = .ok (.ireturn, 1) := by decide +kernel
theorem dL_law_229 : decode cL_law 229 = .ok (.aload_n 1, 1) := by decide +kernel
theorem dL_law_230 : decode cL_law 230 = .ok (.aload_n 0, 1) := by decide +kernel
theorem dL_law_231 : decode cL_law 231 = .ok (.iload_n 3, 1) := by decide +kernel
theorem dL_law_232 : decode cL_law 232 = .ok (.iconst 1, 1) := by decide +kernel
theorem dL_law_233 : decode cL_law 233 = .ok (.iadd, 1) := by decide +kernel
theorem dL_law_234 : decode cL_law 234 = .ok (.iaload, 1) := by decide +kernel
theorem dL_law_235 : decode cL_law 235 = .ok (.aload_n 0, 1) := by decide +kernel
theorem dL_law_236 : decode cL_law 236 = .ok (.iload_n 3, 1) := by decide +kernel
theorem dL_law_237 : decode cL_law 237 = .ok (.iconst 2, 1) := by decide +kernel
theorem dL_law_238 : decode cL_law 238 = .ok (.iadd, 1) := by decide +kernel
theorem dL_law_239 : decode cL_law 239 = .ok (.iaload, 1) := by decide +kernel
theorem dL_law_240 : decode cL_law 240 = .ok (.invokevirtual 28, 3) := by decide +kernel
theorem dL_law_243 : decode cL_law 243 = .ok (.aload_n 2, 1) := by decide +kernel
theorem dL_law_244 : decode cL_law 244 = .ok (.aload_n 0, 1) := by decide +kernel
theorem dL_law_245 : decode cL_law 245 = .ok (.iload_n 3, 1) := by decide +kernel
theorem dL_law_246 : decode cL_law 246 = .ok (.iconst 1, 1) := by decide +kernel
theorem dL_law_247 : decode cL_law 247 = .ok (.iadd, 1) := by decide +kernel
theorem dL_law_248 : decode cL_law 248 = .ok (.iaload, 1) := by decide +kernel
theorem dL_law_249 : decode cL_law 249 = .ok (.aload_n 0, 1) := by decide +kernel
theorem dL_law_250 : decode cL_law 250 = .ok (.iload_n 3, 1) := by decide +kernel
theorem dL_law_251 : decode cL_law 251 = .ok (.iconst 2, 1) := by decide +kernel
theorem dL_law_252 : decode cL_law 252 = .ok (.iadd, 1) := by decide +kernel
theorem dL_law_253 : decode cL_law 253 = .ok (.iaload, 1) := by decide +kernel
theorem dL_law_254 : decode cL_law 254 = .ok (.invokevirtual 31, 3) := by decide +kernel
theorem dL_law_257 : decode cL_law 257 = .ok (.if_icmp .eq 110, 3) := by decide +kernel
theorem dL_law_260 : decode cL_law 260 = .ok (.iconst 0, 1) := by decide +kernel
theorem dL_law_261 : decode cL_law 261 = .ok (.ireturn, 1) := by decide +kernel
theorem dL_law_262 : decode cL_law 262 = .ok (.aload_n 1, 1) := by decide +kernel
theorem dL_law_263 : decode cL_law 263 = .ok (.aload_n 0, 1) := by decide +kernel
theorem dL_law_264 : decode cL_law 264 = .ok (.iload_n 3, 1) := by decide +kernel
theorem dL_law_265 : decode cL_law 265 = .ok (.iconst 1, 1) := by decide +kernel
theorem dL_law_266 : decode cL_law 266 = .ok (.iadd, 1) := by decide +kernel
theorem dL_law_267 : decode cL_law 267 = .ok (.iaload, 1) := by decide +kernel
theorem dL_law_268 : decode cL_law 268 = .ok (.invokevirtual 32, 3) := by decide +kernel
theorem dL_law_271 : decode cL_law 271 = .ok (.aload_n 2, 1) := by decide +kernel
theorem dL_law_272 : decode cL_law 272 = .ok (.aload_n 0, 1) := by decide +kernel
theorem dL_law_273 : decode cL_law 273 = .ok (.iload_n 3, 1) := by decide +kernel
theorem dL_law_274 : decode cL_law 274 = .ok (.iconst 1, 1) := by decide +kernel
theorem dL_law_275 : decode cL_law 275 = .ok (.iadd, 1) := by decide +kernel
theorem dL_law_276 : decode cL_law 276 = .ok (.iaload, 1) := by decide +kernel
theorem dL_law_277 : decode cL_law 277 = .ok (.invokevirtual 36, 3) := by decide +kernel
theorem dL_law_280 : decode cL_law 280 = .ok (.if_icmp .eq 87, 3) := by decide +kernel
theorem dL_law_283 : decode cL_law 283 = .ok (.iconst 0, 1) := by decide +kernel
theorem dL_law_284 : decode cL_law 284 = .ok (.ireturn, 1) := by decide +kernel
theorem dL_law_285 : decode cL_law 285 = .ok (.aload_n 1, 1) := by decide +kernel
theorem dL_law_286 : decode cL_law 286 = .ok (.invokevirtual 37, 3) := by decide +kernel
theorem dL_law_289 : decode cL_law 289 = .ok (.aload_n 2, 1) := by decide +kernel
theorem dL_law_290 : decode cL_law 290 = .ok (.invokevirtual 41, 3) := by decide +kernel
theorem dL_law_293 : decode cL_law 293 = .ok (.if_icmp .eq 74, 3) := by decide +kernel
theorem dL_law_296 : decode cL_law 296 = .ok (.iconst 0, 1) := by decide +kernel
theorem dL_law_297 : decode cL_law 297 = .ok (.ireturn, 1) := by decide +kernel
theorem dL_law_298 : decode cL_law 298 = .ok (.aload_n 1, 1) := by decide +kernel
theorem dL_law_299 : decode cL_law 299 = .ok (.aload_n 0, 1) := by decide +kernel
theorem dL_law_300 : decode cL_law 300 = .ok (.iload_n 3, 1) := by decide +kernel
theorem dL_law_301 : decode cL_law 301 = .ok (.iconst 1, 1) := by decide +kernel
theorem dL_law_302 : decode cL_law 302 = .ok (.iadd, 1) := by decide +kernel
theorem dL_law_303 : decode cL_law 303 = .ok (.iaload, 1) := by decide +kernel
theorem dL_law_304 : decode cL_law 304 = .ok (.aload_n 0, 1) := by decide +kernel
theorem dL_law_305 : decode cL_law 305 = .ok (.iload_n 3, 1) := by decide +kernel
theorem dL_law_306 : decode cL_law 306 = .ok (.iconst 2, 1) := by decide +kernel
theorem dL_law_307 : decode cL_law 307 = .ok (.iadd, 1) := by decide +kernel
theorem dL_law_308 : decode cL_law 308 = .ok (.iaload, 1) := by decide +kernel
theorem dL_law_309 : decode cL_law 309 = .ok (.invokevirtual 42, 3) := by decide +kernel
theorem dL_law_312 : decode cL_law 312 = .ok (.aload_n 2, 1) := by decide +kernel
theorem dL_law_313 : decode cL_law 313 = .ok (.aload_n 0, 1) := by decide +kernel
theorem dL_law_314 : decode cL_law 314 = .ok (.iload_n 3, 1) := by decide +kernel
theorem dL_law_315 : decode cL_law 315 = .ok (.iconst 1, 1) := by decide +kernel
theorem dL_law_316 : decode cL_law 316 = .ok (.iadd, 1) := by decide +kernel
theorem dL_law_317 : decode cL_law 317 = .ok (.iaload, 1) := by decide +kernel
theorem dL_law_318 : decode cL_law 318 = .ok (.aload_n 0, 1) := by decide +kernel
theorem dL_law_319 : decode cL_law 319 = .ok (.iload_n 3, 1) := by decide +kernel
theorem dL_law_320 : decode cL_law 320 = .ok (.iconst 2, 1) := by decide +kernel
theorem dL_law_321 : decode cL_law 321 = .ok (.iadd, 1) := by decide +kernel
theorem dL_law_322 : decode cL_law 322 = .ok (.iaload, 1) := by decide +kernel
theorem dL_law_323 : decode cL_law 323 = .ok (.invokevirtual 45, 3) := by decide +kernel
theorem dL_law_326 : decode cL_law 326 = .ok (.if_icmp .eq 41, 3) := by decide +kernel
theorem dL_law_329 : decode cL_law 329 = .ok (.iconst 0, 1) := by decide +kernel
theorem dL_law_330 : decode cL_law 330 = .ok (.ireturn, 1) := by decide +kernel
theorem dL_law_331 : decode cL_law 331 = .ok (.aload_n 1, 1) := by decide +kernel
theorem dL_law_332 : decode cL_law 332 = .ok (.invokevirtual 46, 3) := by decide +kernel
theorem dL_law_335 : decode cL_law 335 = .ok (.aload_n 2, 1) := by decide +kernel
theorem dL_law_336 : decode cL_law 336 = .ok (.invokevirtual 49, 3) := by decide +kernel
theorem dL_law_339 : decode cL_law 339 = .ok (.if_icmp .eq 28, 3) := by decide +kernel
theorem dL_law_342 : decode cL_law 342 = .ok (.iconst 0, 1) := by decide +kernel
theorem dL_law_343 : decode cL_law 343 = .ok (.ireturn, 1) := by decide +kernel
theorem dL_law_344 : decode cL_law 344 = .ok (.aload_n 1, 1) := by decide +kernel
theorem dL_law_345 : decode cL_law 345 = .ok (.aload_n 0, 1) := by decide +kernel
theorem dL_law_346 : decode cL_law 346 = .ok (.iload_n 3, 1) := by decide +kernel
theorem dL_law_347 : decode cL_law 347 = .ok (.iconst 1, 1) := by decide +kernel
theorem dL_law_348 : decode cL_law 348 = .ok (.iadd, 1) := by decide +kernel
theorem dL_law_349 : decode cL_law 349 = .ok (.iaload, 1) := by decide +kernel
theorem dL_law_350 : decode cL_law 350 = .ok (.invokevirtual 50, 3) := by decide +kernel
theorem dL_law_353 : decode cL_law 353 = .ok (.aload_n 2, 1) := by decide +kernel
theorem dL_law_354 : decode cL_law 354 = .ok (.aload_n 0, 1) := by decide +kernel
theorem dL_law_355 : decode cL_law 355 = .ok (.iload_n 3, 1) := by decide +kernel
theorem dL_law_356 : decode cL_law 356 = .ok (.iconst 1, 1) := by decide +kernel
theorem dL_law_357 : decode cL_law 357 = .ok (.iadd, 1) := by decide +kernel
theorem dL_law_358 : decode cL_law 358 = .ok (.iaload, 1) := by decide +kernel
theorem dL_law_359 : decode cL_law 359 = .ok (.invokevirtual 53, 3) := by decide +kernel
theorem dL_law_362 : decode cL_law 362 = .ok (.if_icmp .eq 5, 3) := by decide +kernel
theorem dL_law_365 : decode cL_law 365 = .ok (.iconst 0, 1) := by decide +kernel
theorem dL_law_366 : decode cL_law 366 = .ok (.ireturn, 1) := by decide +kernel
theorem dL_law_367 : decode cL_law 367 = .ok (.iinc 3 5, 3) := by decide +kernel
theorem dL_law_370 : decode cL_law 370 = .ok (.goto (-352), 3) := by decide +kernel
theorem dL_law_373 : decode cL_law 373 = .ok (.iconst 1, 1) := by decide +kernel
theorem dL_law_374 : decode cL_law 374 = .ok (.ireturn, 1) := by decide +kernel
abbrev vwCl : List vw_C := [(RX0, TX0, 9), (RX1, TX1, 10)]
end
section
/-! rows of my own over the kit's: numbers as Nat or Int, calls that leave the heap as it is, calls with a world -/
theorem gz_lt {x y : Int32} {a b : Int} (ha : x.toInt = a) (hb : y.toInt = b) : x < y ↔ a < b := by
  rw [← ha, ← hb]; exact Int32.lt_iff_toInt_lt
theorem gz_le {x y : Int32} {a b : Int} (ha : x.toInt = a) (hb : y.toInt = b) : x ≤ y ↔ a ≤ b := by
  rw [← ha, ← hb]; exact Int32.le_iff_toInt_le
theorem gz_eq {x y : Int32} {a b : Int} (ha : x.toInt = a) (hb : y.toInt = b) : x = y ↔ a = b := by
  rw [← ha, ← hb]; exact Int32.toInt_inj.symm
theorem gz_ne0 {i : Nat} (h : ¬ i = 0) (hb : i < 2 ^ 31) : ¬ nI i = 0 := fun q => h ((nI_eq hb (by omega)).mp q)
theorem gz_z0 : (0 : Int32).toInt = 0 := by decide
abbrev gPr (D : va_G) (cl : List vw_C) (tys : List (ClassId × FieldType)) (av : List Value) (ws : va_W) : Array Value → State → Prop :=
  va_Pc av (fun U => va_P D cl ws U.heap ∧ va_K D cl tys U)
abbrev gPw (D : va_G) (cl : List vw_C) (tys : List (ClassId × FieldType)) (av : List Value) (sz : Nat) (ws : va_W) : Array Value → State → Prop :=
  va_Pc av (fun U => U.heap.size = sz ∧ va_P D cl ws U.heap ∧ va_K D cl tys U ∧ va_D (fun _ => True) ws)
abbrev gQA (D : va_G) (cl : List vw_C) (tys : List (ClassId × FieldType)) (v : Int32) (A : Nat → Prop) (ws' : va_W) : Array Value → State → Outcome → State → Prop :=
  va_Qi (fun (r : Int32) (_ : Unit) => r = v) (fun _ t => va_P D cl ws' t.heap ∧ va_K D cl tys t ∧ va_D A ws') A
abbrev gVA (D : va_G) (cl : List vw_C) (tys : List (ClassId × FieldType)) (A : Nat → Prop) (ws' : va_W) : Array Value → State → Outcome → State → Prop :=
  va_Qv (fun (_ : Unit) => True) (fun _ t => va_P D cl ws' t.heap ∧ va_K D cl tys t ∧ va_D A ws') A
section GzRows
variable {p : Program} {l : Launch} {e : Env} {R : Room} {s : State} {m : MethodId} {args : Array Value} {below : List Frame} {meth : Method} {c : Code} {H : Heap} {locs : List Loc} {cells slots : Nat} {Q : State → Prop}
variable {cc : ByteArray} {pc : Nat} {ls : Array Slot} {rest : List Value} {D : va_G} {cl : List vw_C} {A : Nat → Prop} {a : Nat} {tys : List (ClassId × FieldType)} {ws : va_W} {H0 : Heap}
-- branches, over Int
theorem gz_icmp_lt (hexec : p.tables.exec = Jvm.exec) (hb : c.code = cc) {x y : Int32} {za zb : Int} {off : Int} {tgt : Nat} (hdg : decode cc pc = .ok (.if_icmp .lt off, 3)) (ht : (pc : Int) + off = (tgt : Int)) (h1 : x.toInt = za) (h2 : y.toInt = zb)
    (kt : za < zb → W p l e R s m args below meth c H locs cells slots Q (F0 m tgt ls rest)) (kf : zb ≤ za → W p l e R s m args below meth c H locs cells slots Q (F0 m (pc + 3) ls rest)) : W p l e R s m args below meth c H locs cells slots Q (F0 m pc ls (.int y :: .int x :: rest)) :=
  lv_icmp_lt hexec hb hdg ht (fun h => kt ((gz_lt h1 h2).mp h)) (fun h => kf (Int.not_lt.mp fun q => h ((gz_lt h1 h2).mpr q)))
theorem gz_icmp_ge (hexec : p.tables.exec = Jvm.exec) (hb : c.code = cc) {x y : Int32} {za zb : Int} {off : Int} {tgt : Nat} (hdg : decode cc pc = .ok (.if_icmp .ge off, 3)) (ht : (pc : Int) + off = (tgt : Int)) (h1 : x.toInt = za) (h2 : y.toInt = zb)
    (kt : zb ≤ za → W p l e R s m args below meth c H locs cells slots Q (F0 m tgt ls rest)) (kf : za < zb → W p l e R s m args below meth c H locs cells slots Q (F0 m (pc + 3) ls rest)) : W p l e R s m args below meth c H locs cells slots Q (F0 m pc ls (.int y :: .int x :: rest)) :=
  lv_icmp_ge hexec hb hdg ht (fun h => kt ((gz_le h2 h1).mp h)) (fun h => kf (Int.not_le.mp fun q => h ((gz_le h2 h1).mpr q)))
theorem gz_icmp_gt (hexec : p.tables.exec = Jvm.exec) (hb : c.code = cc) {x y : Int32} {za zb : Int} {off : Int} {tgt : Nat} (hdg : decode cc pc = .ok (.if_icmp .gt off, 3)) (ht : (pc : Int) + off = (tgt : Int)) (h1 : x.toInt = za) (h2 : y.toInt = zb)
    (kt : zb < za → W p l e R s m args below meth c H locs cells slots Q (F0 m tgt ls rest)) (kf : za ≤ zb → W p l e R s m args below meth c H locs cells slots Q (F0 m (pc + 3) ls rest)) : W p l e R s m args below meth c H locs cells slots Q (F0 m pc ls (.int y :: .int x :: rest)) :=
  lv_icmp_gt hexec hb hdg ht (fun h => kt ((gz_lt h2 h1).mp h)) (fun h => kf (Int.not_lt.mp fun q => h ((gz_lt h2 h1).mpr q)))
theorem gz_icmp_le (hexec : p.tables.exec = Jvm.exec) (hb : c.code = cc) {x y : Int32} {za zb : Int} {off : Int} {tgt : Nat} (hdg : decode cc pc = .ok (.if_icmp .le off, 3)) (ht : (pc : Int) + off = (tgt : Int)) (h1 : x.toInt = za) (h2 : y.toInt = zb)
    (kt : za ≤ zb → W p l e R s m args below meth c H locs cells slots Q (F0 m tgt ls rest)) (kf : zb < za → W p l e R s m args below meth c H locs cells slots Q (F0 m (pc + 3) ls rest)) : W p l e R s m args below meth c H locs cells slots Q (F0 m pc ls (.int y :: .int x :: rest)) :=
  lv_icmp_le hexec hb hdg ht (fun h => kt ((gz_le h1 h2).mp h)) (fun h => kf (Int.not_le.mp fun q => h ((gz_le h1 h2).mpr q)))
theorem gz_icmp_eq (hexec : p.tables.exec = Jvm.exec) (hb : c.code = cc) {x y : Int32} {za zb : Int} {off : Int} {tgt : Nat} (hdg : decode cc pc = .ok (.if_icmp .eq off, 3)) (ht : (pc : Int) + off = (tgt : Int)) (h1 : x.toInt = za) (h2 : y.toInt = zb)
    (kt : za = zb → W p l e R s m args below meth c H locs cells slots Q (F0 m tgt ls rest)) (kf : ¬ za = zb → W p l e R s m args below meth c H locs cells slots Q (F0 m (pc + 3) ls rest)) : W p l e R s m args below meth c H locs cells slots Q (F0 m pc ls (.int y :: .int x :: rest)) :=
  lv_icmp_eq hexec hb hdg ht (fun h => kt ((gz_eq h1 h2).mp h)) (fun h => kf (fun q => h ((gz_eq h1 h2).mpr q)))
theorem gz_icmp_ne (hexec : p.tables.exec = Jvm.exec) (hb : c.code = cc) {x y : Int32} {za zb : Int} {off : Int} {tgt : Nat} (hdg : decode cc pc = .ok (.if_icmp .ne off, 3)) (ht : (pc : Int) + off = (tgt : Int)) (h1 : x.toInt = za) (h2 : y.toInt = zb)
    (kt : ¬ za = zb → W p l e R s m args below meth c H locs cells slots Q (F0 m tgt ls rest)) (kf : za = zb → W p l e R s m args below meth c H locs cells slots Q (F0 m (pc + 3) ls rest)) : W p l e R s m args below meth c H locs cells slots Q (F0 m pc ls (.int y :: .int x :: rest)) :=
  lv_icmp_ne hexec hb hdg ht (fun h => kt (fun q => h ((gz_eq h1 h2).mpr q))) (fun h => kf ((gz_eq h1 h2).mp h))
theorem gz_if_lt (hexec : p.tables.exec = Jvm.exec) (hb : c.code = cc) {x : Int32} {za : Int} {off : Int} {tgt : Nat} (hdg : decode cc pc = .ok (.ifCond .lt off, 3)) (ht : (pc : Int) + off = (tgt : Int)) (h1 : x.toInt = za)
    (kt : za < 0 → W p l e R s m args below meth c H locs cells slots Q (F0 m tgt ls rest)) (kf : 0 ≤ za → W p l e R s m args below meth c H locs cells slots Q (F0 m (pc + 3) ls rest)) : W p l e R s m args below meth c H locs cells slots Q (F0 m pc ls (.int x :: rest)) :=
  lv_if_lt hexec hb hdg ht (fun h => kt ((gz_lt h1 gz_z0).mp h)) (fun h => kf (Int.not_lt.mp fun q => h ((gz_lt h1 gz_z0).mpr q)))
theorem gz_if_ge (hexec : p.tables.exec = Jvm.exec) (hb : c.code = cc) {x : Int32} {za : Int} {off : Int} {tgt : Nat} (hdg : decode cc pc = .ok (.ifCond .ge off, 3)) (ht : (pc : Int) + off = (tgt : Int)) (h1 : x.toInt = za)
    (kt : 0 ≤ za → W p l e R s m args below meth c H locs cells slots Q (F0 m tgt ls rest)) (kf : za < 0 → W p l e R s m args below meth c H locs cells slots Q (F0 m (pc + 3) ls rest)) : W p l e R s m args below meth c H locs cells slots Q (F0 m pc ls (.int x :: rest)) :=
  lv_if_ge hexec hb hdg ht (fun h => kt ((gz_le gz_z0 h1).mp h)) (fun h => kf (Int.not_le.mp fun q => h ((gz_le gz_z0 h1).mpr q)))
theorem gz_if_le (hexec : p.tables.exec = Jvm.exec) (hb : c.code = cc) {x : Int32} {za : Int} {off : Int} {tgt : Nat} (hdg : decode cc pc = .ok (.ifCond .le off, 3)) (ht : (pc : Int) + off = (tgt : Int)) (h1 : x.toInt = za)
    (kt : za ≤ 0 → W p l e R s m args below meth c H locs cells slots Q (F0 m tgt ls rest)) (kf : 0 < za → W p l e R s m args below meth c H locs cells slots Q (F0 m (pc + 3) ls rest)) : W p l e R s m args below meth c H locs cells slots Q (F0 m pc ls (.int x :: rest)) :=
  lv_if_le hexec hb hdg ht (fun h => kt ((gz_le h1 gz_z0).mp h)) (fun h => kf (Int.not_le.mp fun q => h ((gz_le h1 gz_z0).mpr q)))
theorem gz_if_gt (hexec : p.tables.exec = Jvm.exec) (hb : c.code = cc) {x : Int32} {za : Int} {off : Int} {tgt : Nat} (hdg : decode cc pc = .ok (.ifCond .gt off, 3)) (ht : (pc : Int) + off = (tgt : Int)) (h1 : x.toInt = za)
    (kt : 0 < za → W p l e R s m args below meth c H locs cells slots Q (F0 m tgt ls rest)) (kf : za ≤ 0 → W p l e R s m args below meth c H locs cells slots Q (F0 m (pc + 3) ls rest)) : W p l e R s m args below meth c H locs cells slots Q (F0 m pc ls (.int x :: rest)) :=
  lv_if_gt hexec hb hdg ht (fun h => kt ((gz_lt gz_z0 h1).mp h)) (fun h => kf (Int.not_lt.mp fun q => h ((gz_lt gz_z0 h1).mpr q)))
-- a truth value on the stack
theorem gz_ifeqB {P : Prop} [Decidable P] (hexec : p.tables.exec = Jvm.exec) (hb : c.code = cc) {off : Int} {tgt : Nat} (hdg : decode cc pc = .ok (.ifCond .eq off, 3)) (ht : (pc : Int) + off = (tgt : Int))
    (kt : ¬ P → W p l e R s m args below meth c H locs cells slots Q (F0 m tgt ls rest)) (kf : P → W p l e R s m args below meth c H locs cells slots Q (F0 m (pc + 3) ls rest)) : W p l e R s m args below meth c H locs cells slots Q (F0 m pc ls (.int (if P then nI 1 else nI 0) :: rest)) :=
  lv_if_eq hexec hb hdg ht (fun h => kt (fun hp => by rw [if_pos hp] at h; exact absurd h (by decide))) (fun h => kf (by
    by_cases hp : P
    · exact hp
    · rw [if_neg hp] at h; exact absurd rfl h))
theorem gz_ifneB {P : Prop} [Decidable P] (hexec : p.tables.exec = Jvm.exec) (hb : c.code = cc) {off : Int} {tgt : Nat} (hdg : decode cc pc = .ok (.ifCond .ne off, 3)) (ht : (pc : Int) + off = (tgt : Int))
    (kt : P → W p l e R s m args below meth c H locs cells slots Q (F0 m tgt ls rest)) (kf : ¬ P → W p l e R s m args below meth c H locs cells slots Q (F0 m (pc + 3) ls rest)) : W p l e R s m args below meth c H locs cells slots Q (F0 m pc ls (.int (if P then nI 1 else nI 0) :: rest)) :=
  lv_if_ne hexec hb hdg ht (fun h => kt (by
    by_cases hp : P
    · exact hp
    · rw [if_neg hp] at h; exact absurd rfl h)) (fun h => kf (fun hp => by rw [if_pos hp] at h; exact absurd h (by decide)))
-- arithmetic over Nat
theorem gz_iadd (hexec : p.tables.exec = Jvm.exec) (hb : c.code = cc) {i j : Nat} (hdg : decode cc pc = .ok (.iadd, 1))
    (k : W p l e R s m args below meth c H locs cells slots Q (F0 m (pc + 1) ls (.int (nI (i + j)) :: rest))) : W p l e R s m args below meth c H locs cells slots Q (F0 m pc ls (.int (nI j) :: .int (nI i) :: rest)) :=
  lv_iadd hexec hb hdg (by rw [nI_add]; exact k)
theorem gz_isub (hexec : p.tables.exec = Jvm.exec) (hb : c.code = cc) {i j : Nat} (hdg : decode cc pc = .ok (.isub, 1)) (hij : j ≤ i)
    (k : W p l e R s m args below meth c H locs cells slots Q (F0 m (pc + 1) ls (.int (nI (i - j)) :: rest))) : W p l e R s m args below meth c H locs cells slots Q (F0 m pc ls (.int (nI j) :: .int (nI i) :: rest)) :=
  lv_isub hexec hb hdg (by rw [pk_sub hij]; exact k)
theorem gz_imul (hexec : p.tables.exec = Jvm.exec) (hb : c.code = cc) {i j : Nat} (hdg : decode cc pc = .ok (.imul, 1))
    (k : W p l e R s m args below meth c H locs cells slots Q (F0 m (pc + 1) ls (.int (nI (i * j)) :: rest))) : W p l e R s m args below meth c H locs cells slots Q (F0 m pc ls (.int (nI j) :: .int (nI i) :: rest)) :=
  lv_imul hexec hb hdg (by rw [pk_mul]; exact k)
theorem gz_imulc (hexec : p.tables.exec = Jvm.exec) (hb : c.code = cc) {i j : Nat} (hdg : decode cc pc = .ok (.imul, 1))
    (k : W p l e R s m args below meth c H locs cells slots Q (F0 m (pc + 1) ls (.int (nI (j * i)) :: rest))) : W p l e R s m args below meth c H locs cells slots Q (F0 m pc ls (.int (nI j) :: .int (nI i) :: rest)) :=
  lv_imul hexec hb hdg (by rw [pk_mul, Nat.mul_comm]; exact k)
theorem gz_top {i j : Nat} (h : i = j) (k : W p l e R s m args below meth c H locs cells slots Q (F0 m pc ls (.int (nI j) :: rest))) : W p l e R s m args below meth c H locs cells slots Q (F0 m pc ls (.int (nI i) :: rest)) := h ▸ k
theorem gz_topI {x y : Int32} (h : x = y) (k : W p l e R s m args below meth c H locs cells slots Q (F0 m pc ls (.int y :: rest))) : W p l e R s m args below meth c H locs cells slots Q (F0 m pc ls (.int x :: rest)) := h ▸ k
-- arrays of ints, by a Nat
theorem gz_iald (hexec : p.tables.exec = Jvm.exec) (hb : c.code = cc) (hK : va_K D cl tys s) (hP : va_P D cl ws H) (q0 t0 : Nat) {cA : ClassId} {n : Nat} {f : Nat → Int32} (ha : ws[q0]? = some (a, .inl (cA, n, .inl f))) (ht : tys[t0]? = some (cA, .int)) {k : Nat} (hk : k < n) (hn : n < 2 ^ 31) (hdg : decode cc pc = .ok (.iaload, 1))
    (kk : W p l e R s m args below meth c H locs cells slots Q (F0 m (pc + 1) ls (.int (f k) :: rest))) : W p l e R s m args below meth c H locs cells slots Q (F0 m pc ls (.int (nI k) :: .ref a :: rest)) :=
  va_iald hexec hb hK hP q0 t0 ha ht (vp_in_nI hk hn) hdg (by rw [nI_clamp (Nat.lt_trans hk hn)]; exact kk)
theorem gz_iast (hexec : p.tables.exec = Jvm.exec) (hb : c.code = cc) (hK : va_K D cl tys s) (hP : va_P D cl ws H) (hD : va_D A ws) (hS : va_S A H0 H locs) (q0 t0 : Nat) {cA : ClassId} {n : Nat} {f : Nat → Int32} (ha : ws[q0]? = some (a, .inl (cA, n, .inl f))) (ht : tys[t0]? = some (cA, .int)) {k : Nat} {x : Int32} (hk : k < n) (hn : n < 2 ^ 31) (hdg : decode cc pc = .ok (.iastore, 1))
    (kk : ∀ (H1 : Heap) (locs1 : List Loc), va_P D cl (ws.set q0 (a, .inl (cA, n, .inl (upd f k x)))) H1 → va_D A (ws.set q0 (a, .inl (cA, n, .inl (upd f k x)))) → va_S A H0 H1 locs1 → W p l e R s m args below meth c H1 locs1 cells slots Q (F0 m (pc + 1) ls rest)) : W p l e R s m args below meth c H locs cells slots Q (F0 m pc ls (.int x :: .int (nI k) :: .ref a :: rest)) :=
  va_iast hexec hb hK hP hD hS q0 t0 ha ht (vp_in_nI hk hn) hdg (by rw [nI_clamp (Nat.lt_trans hk hn)]; exact kk)
-- calls
theorem gz_callR {r : Int32} {st0 : List Value} {av : Array Value} (hr : CallRun p l e R s m args below meth c H locs cells slots 0 0 (F0 m pc ls st0) rest (QcRead r av) (fun _ => False))
    (kk : W p l e R s m args below meth c H locs cells slots Q (F0 m (pc + 3) ls (.int r :: rest))) : W p l e R s m args below meth c H locs cells slots Q (F0 m pc ls st0) := W.callR hr kk
theorem gz_preV {wc : va_W} {q : vw_C} {fs : List Value} {b ci : Nat} {As : List Value} (hK : va_K D cl tys s) (hP : va_P D cl ws H) (isC : List Nat) (hs : isC.filterMap (fun i => ws[i]?) = wc) (hc : cl[ci]? = some q) (he : wc[0]? = some (b, .inr (ci, fs))) :
    PreV s H q.1 b (gPr D cl tys (.ref b :: As) wc) As :=
  ⟨fun _ U _ _ h => ⟨h.1, h.2.1, va_K.moved (Vm.Alike.refl U.vm) h.2.2⟩, va_recv hK (hP.sub isC hs) hc he, fun U hU hW => ⟨rfl, by rw [hU]; exact hP.sub isC hs, va_K.moved hW.alike hK⟩⟩
theorem gz_preVw {wc : va_W} {q : vw_C} {fs : List Value} {b ci : Nat} {As : List Value} (hK : va_K D cl tys s) (hP : va_P D cl ws H) (hD : va_D A ws) (isC : List Nat) (hn : va_nd isC = true) (hs : isC.map (fun i => ws[i]?) = wc.map some) (hs2 : isC.filterMap (fun i => ws[i]?) = wc) (hc : cl[ci]? = some q) (he : wc[0]? = some (b, .inr (ci, fs))) :
    PreV s H q.1 b (gPw D cl tys (.ref b :: As) H.size wc) As :=
  ⟨fun _ U _ _ h => ⟨h.1, h.2.1, h.2.2.1, va_K.moved (Vm.Alike.refl U.vm) h.2.2.2.1, h.2.2.2.2⟩, va_recv hK (hP.sub isC hs2) hc he, fun U hU hW => ⟨rfl, by rw [hU], by rw [hU]; exact hP.sub isC hs2, va_K.moved hW.alike hK, (hD.sub isC hn hs).weaken (fun _ _ _ _ => trivial)⟩⟩
theorem gz_preSw {wc : va_W} {As : List Value} (hK : va_K D cl tys s) (hP : va_P D cl ws H) (hD : va_D A ws) (isC : List Nat) (hn : va_nd isC = true) (hs : isC.map (fun i => ws[i]?) = wc.map some) (hs2 : isC.filterMap (fun i => ws[i]?) = wc) :
    PreS s H (gPw D cl tys As H.size wc) As :=
  ⟨fun _ U _ _ h => ⟨h.1, h.2.1, h.2.2.1, va_K.moved (Vm.Alike.refl U.vm) h.2.2.2.1, h.2.2.2.2⟩, fun U hU hW => ⟨rfl, by rw [hU], by rw [hU]; exact hP.sub isC hs2, va_K.moved hW.alike hK, (hD.sub isC hn hs).weaken (fun _ _ _ _ => trivial)⟩⟩
theorem gz_calli {wc wr w1 : va_W} {v : Int32} {st0 : List Value} {av : Array Value} (hP : va_P D cl ws H) (hD : va_D A ws) (hS : va_S A H0 H locs) (hA : ∀ q, H0.size ≤ q → A q) (isC isR : List Nat) (hC : isC.map (fun i => ws[i]?) = wc.map some) (hR : isR.map (fun i => ws[i]?) = wr.map some) (hn : va_nd isR = true) (hdis : ∀ i ∈ isR, i ∉ isC)
    (hr : va_Run p l e R s m args below meth c H locs cells slots 0 0 (F0 m pc ls st0) rest (gQA D cl tys v (va_A wc H.size) w1 av) (va_A wc H.size))
    (kk : ∀ (H1 : Heap) (locs1 : List Loc), va_P D cl (wr ++ w1) H1 → va_D A (wr ++ w1) → va_S A H0 H1 locs1 → W p l e R s m args below meth c H1 locs1 cells slots Q (F0 m (pc + 3) ls (.int v :: rest))) : W p l e R s m args below meth c H locs cells slots Q (F0 m pc ls st0) := by
  have hFc := va_free hD hS hA isC hC
  refine va_calli hr hS (fun q _ h => hFc q h) hFc (fun r u t H1 locs1 ht hvm hw hB hz1 hk1 hS1 => ?_)
  obtain ⟨hP1, hK1, hD1⟩ := hB
  rw [ht] at hP1
  obtain ⟨hPn, hDn⟩ := va_join hP hD isC isR hC hR hn hdis hk1 hFc hP1 hD1
  have hw : r = v := hw
  subst hw
  exact kk H1 locs1 hPn hDn hS1
theorem gz_callv {wc wr w1 : va_W} {st0 : List Value} {av : Array Value} (hP : va_P D cl ws H) (hD : va_D A ws) (hS : va_S A H0 H locs) (hA : ∀ q, H0.size ≤ q → A q) (isC isR : List Nat) (hC : isC.map (fun i => ws[i]?) = wc.map some) (hR : isR.map (fun i => ws[i]?) = wr.map some) (hn : va_nd isR = true) (hdis : ∀ i ∈ isR, i ∉ isC)
    (hr : va_Run p l e R s m args below meth c H locs cells slots 0 0 (F0 m pc ls st0) rest (gVA D cl tys (va_A wc H.size) w1 av) (va_A wc H.size))
    (kk : ∀ (H1 : Heap) (locs1 : List Loc), va_P D cl (wr ++ w1) H1 → va_D A (wr ++ w1) → va_S A H0 H1 locs1 → W p l e R s m args below meth c H1 locs1 cells slots Q (F0 m (pc + 3) ls rest)) : W p l e R s m args below meth c H locs cells slots Q (F0 m pc ls st0) := by
  have hFc := va_free hD hS hA isC hC
  refine va_callv hr hS (fun q _ h => hFc q h) hFc (fun u t H1 locs1 ht hvm hw hB hz1 hk1 hS1 => ?_)
  obtain ⟨hP1, hK1, hD1⟩ := hB
  rw [ht] at hP1
  obtain ⟨hPn, hDn⟩ := va_join hP hD isC isR hC hR hn hdis hk1 hFc hP1 hD1
  exact kk H1 locs1 hPn hDn hS1
end GzRows
end
section
/-! ONE mathematical state for the class and for the reference: kinds fk, variables fc, last seen values fs (144 each), links fl, power fp (156 each), values fv (40), rows, columns, scanned -/
abbrev gw (cA : ClassId) (h qk qc qs ql qp qv : Nat) (fk fc fs fl fp fv : Nat → Int32) (r c sc : Int32) : va_W :=
  [(h, .inr (0, [.ref qk, .ref qc, .ref qs, .ref ql, .ref qp, .ref qv, .int r, .int c, .int sc])), (qk, .inl (cA, 144, .inl fk)), (qc, .inl (cA, 144, .inl fc)), (qs, .inl (cA, 144, .inl fs)), (ql, .inl (cA, 156, .inl fl)), (qp, .inl (cA, 156, .inl fp)), (qv, .inl (cA, 40, .inl fv))]
abbrev mw (cA cZ : ClassId) (g mk mc ms ml mv mt mp : Nat) (fk fc fs fl fp fv ft : Nat → Int32) (r c sc : Int32) : va_W :=
  [(g, .inr (1, [.int r, .int c, .ref mk, .ref mc, .ref ms, .ref ml, .ref mv, .ref mt, .ref mp, .int sc])), (mk, .inl (cA, 144, .inl fk)), (mc, .inl (cA, 144, .inl fc)), (ms, .inl (cA, 144, .inl fs)), (ml, .inl (cZ, 156, .inl fl)), (mv, .inl (cA, 40, .inl fv)), (mt, .inl (cA, 40, .inl ft)), (mp, .inl (cZ, 156, .inl fp))]
/-- a switch of three numbers: does a cell of kind k let power through, its variable being v, sn when it was scanned last -/
def gLets (k v sn : Int32) : Int32 :=
  if k = nI 1 then nI 1 else if k = nI 2 then (if v = nI 1 then nI 1 else nI 0) else if k = nI 3 then (if v = nI 0 then nI 1 else nI 0)
  else if k = nI 4 then (if v = nI 1 then (if sn = nI 0 then nI 1 else nI 0) else nI 0) else if k = nI 5 then (if v = nI 0 then (if sn = nI 1 then nI 1 else nI 0) else nI 0) else nI 0
theorem gLets_01 (k v sn : Int32) : gLets k v sn = nI 0 ∨ gLets k v sn = nI 1 := by
  unfold gLets
  repeat' split
  all_goals first | exact Or.inl rfl | exact Or.inr rfl
/-- what a coil of kind k makes of its variable, that was b, with power pw -/
def gCoil (k pw b : Int32) : Int32 :=
  if k = nI 6 then pw else if k = nI 7 then nI 1 - pw else if k = nI 8 then (if pw = nI 1 then nI 1 else b) else (if pw = nI 1 then nI 0 else b)
def gPs1 (fk fc fv : Nat → Int32) (col i : Nat) (q : (Nat → Int32) × (Nat → Int32)) : (Nat → Int32) × (Nat → Int32) :=
  (upd q.1 (i * 13 + (col + 1)) (if q.1 (i * 13 + col) = nI 1 then gLets (fk (i * 12 + col)) (fv (fc (i * 12 + col)).toNatClampNeg) (q.2 (i * 12 + col)) else nI 0),
   upd q.2 (i * 12 + col) (fv (fc (i * 12 + col)).toNatClampNeg))
def gPs (fk fc fv : Nat → Int32) (col : Nat) (q : (Nat → Int32) × (Nat → Int32)) : Nat → (Nat → Int32) × (Nat → Int32)
  | 0 => q
  | i + 1 => gPs1 fk fc fv col i (gPs fk fc fv col q i)
def gDn1 (fl : Nat → Int32) (ln i : Nat) (f : Nat → Int32) : Nat → Int32 :=
  if fl (i * 13 + ln) = nI 1 then (if f (i * 13 + ln) = nI 1 then upd f ((i + 1) * 13 + ln) (nI 1) else f) else f
def gDn (fl : Nat → Int32) (ln : Nat) (f : Nat → Int32) : Nat → Nat → Int32
  | 0 => f
  | i + 1 => gDn1 fl ln i (gDn fl ln f i)
def gUp1 (fl : Nat → Int32) (ln i : Nat) (f : Nat → Int32) : Nat → Int32 :=
  if fl (i * 13 + ln) = nI 1 then (if f ((i + 1) * 13 + ln) = nI 1 then upd f (i * 13 + ln) (nI 1) else f) else f
def gUp (fl : Nat → Int32) (ln : Nat) : Nat → (Nat → Int32) → Nat → Int32
  | 0, f => f
  | i + 1, f => gUp fl ln i (gUp1 fl ln i f)
def gSh (fl : Nat → Int32) (ln rn : Nat) (f : Nat → Int32) : Nat → Int32 := gUp fl ln (rn - 1) (gDn fl ln f (rn - 1))
def gCols (fk fc fl fv : Nat → Int32) (rn : Nat) (q : (Nat → Int32) × (Nat → Int32)) : Nat → (Nat → Int32) × (Nat → Int32)
  | 0 => q
  | j + 1 => (gSh fl (j + 1) rn (gPs fk fc fv j (gCols fk fc fl fv rn q j) rn).1, (gPs fk fc fv j (gCols fk fc fl fv rn q j) rn).2)
def gP0 (f : Nat → Int32) : Nat → Nat → Int32
  | 0 => f
  | i + 1 => upd (gP0 f i) (i * 13) (nI 1)
def gCo1 (fk fc fp : Nat → Int32) (cn i : Nat) (q : (Nat → Int32) × Int32) : (Nat → Int32) × Int32 :=
  if 6 ≤ (fk (i * 12 + (cn - 1))).toInt then
    (upd q.1 (fc (i * 12 + (cn - 1))).toNatClampNeg (gCoil (fk (i * 12 + (cn - 1))) (fp (i * 13 + (cn - 1))) (q.1 (fc (i * 12 + (cn - 1))).toNatClampNeg)), q.2 + fp (i * 13 + (cn - 1)))
  else q
def gCo (fk fc fp : Nat → Int32) (cn : Nat) (q : (Nat → Int32) × Int32) : Nat → (Nat → Int32) × Int32
  | 0 => q
  | i + 1 => gCo1 fk fc fp cn i (gCo fk fc fp cn q i)
def ksN (j : Nat) : Nat := [0, 0, 2, 3, 7, 7, 2, 3, 4, 5].getD j 0
def gLs1 (k f : Int32) (q : Nat × Nat) : Nat × Nat :=
  if 6 ≤ k.toInt then q
  else if f = nI 0 then (if k = nI 0 then (q.1 + ((if q.2 = 0 then 1 else q.2 - 1) + 1), 0) else (q.1 + (1 + ksN k.toNatClampNeg) + (q.2 + 1), 0))
  else (if k = nI 0 then q else (q.1 + (1 + ksN k.toNatClampNeg), q.2 + 1))
def gLs (fk fl : Nat → Int32) (ln : Nat) : Nat → Nat × Nat
  | 0 => (0, 0)
  | i + 1 => gLs1 (fk (i * 12 + (ln - 1))) (fl (i * 13 + ln)) (gLs fk fl ln i)
theorem gLs_le (fk fl : Nat → Int32) (ln : Nat) : ∀ i, (gLs fk fl ln i).2 ≤ i := by
  intro i
  induction i with
  | zero => exact Nat.le_refl 0
  | succ i ih =>
    show (gLs1 _ _ (gLs fk fl ln i)).2 ≤ i + 1
    unfold gLs1
    repeat' split
    all_goals (first | exact Nat.zero_le _ | omega | (show _ + 1 ≤ i + 1; omega))
def gCs (fk : Nat → Int32) (cn : Nat) : Nat → Nat
  | 0 => 0
  | i + 1 => if 6 ≤ (fk (i * 12 + (cn - 1))).toInt then gCs fk cn i + ksN (fk (i * 12 + (cn - 1))).toNatClampNeg else gCs fk cn i
def gSt (fk fl : Nat → Int32) (rn : Nat) : Nat → Nat
  | 0 => 0
  | j + 1 => gSt fk fl rn j + (gLs fk fl (j + 1) rn).1
def gGr (fl : Nat → Int32) (ln : Nat) : Nat → Nat
  | 0 => 0
  | i + 1 => if fl (i * 13 + ln) = nI 1 then gGr fl ln i + 1 else gGr fl ln i
theorem gGr_le (fl : Nat → Int32) (ln : Nat) : ∀ i, gGr fl ln i ≤ i := by
  intro i
  induction i with
  | zero => exact Nat.le_refl 0
  | succ i ih =>
    unfold gGr
    split <;> omega
end
section
/-! more rows of my own: contents that agree on the array's places, arrays of truth values, the filling of an array, statics -/
theorem gz_cell_ext {cA : ClassId} {n : Nat} {f g : Nat → Int32} (h : ∀ j, j < n → f j = g j) : vp_cell cA (n, .inl f) = vp_cell cA (n, .inl g) := by
  have e : (fun j : Fin n => Value.int (f j.val)) = (fun j : Fin n => Value.int (g j.val)) := funext fun j => by rw [h j.val j.isLt]
  show ({ cls := cA, slots := Array.ofFn (n := n) fun j => Value.int (f j.val), vm := .none } : Cell) = { cls := cA, slots := Array.ofFn (n := n) fun j => Value.int (g j.val), vm := .none }
  rw [e]
theorem gz_setext {D : va_G} {cl : List vw_C} {ws : va_W} {H : Heap} {a n : Nat} {cA : ClassId} {f g : Nat → Int32} (hP : va_P D cl ws H) (k : Nat) (ha : ws[k]? = some (a, .inl (cA, n, .inl f))) (h : ∀ j, j < n → f j = g j) : va_P D cl (ws.set k (a, .inl (cA, n, .inl g))) H := by
  have hl := (List.getElem?_eq_some_iff.mp ha).1
  intro i q hi
  by_cases e : i = k
  · subst e
    rw [List.getElem?_set_self hl] at hi
    cases hi
    have h0 : H[a]? = some (vp_cell cA (n, .inl f)) := hP i _ ha
    show H[a]? = some (vp_cell cA (n, .inl g))
    rw [← gz_cell_ext h]; exact h0
  · rw [List.getElem?_set_ne (Ne.symm e)] at hi
    exact hP i q hi
def gFill (f : Nat → Int32) (v : Int32) : Nat → Nat → Int32
  | 0 => f
  | i + 1 => upd (gFill f v i) i v
theorem gFill_in (f : Nat → Int32) (v : Int32) : ∀ i j, j < i → gFill f v i j = v := by
  intro i
  induction i with
  | zero => intro j h; exact absurd h (Nat.not_lt_zero j)
  | succ i ih =>
    intro j h
    show upd (gFill f v i) i v j = v
    by_cases e : j = i
    · subst e; exact pk_us
    · rw [pk_un e]; exact ih j (by omega)
section GzRows2
variable {p : Program} {l : Launch} {e : Env} {R : Room} {s : State} {m : MethodId} {args : Array Value} {below : List Frame} {meth : Method} {c : Code} {H : Heap} {locs : List Loc} {cells slots : Nat} {Q : State → Prop}
variable {cc : ByteArray} {pc : Nat} {ls : Array Slot} {rest : List Value} {D : va_G} {cl : List vw_C} {A : Nat → Prop} {a : Nat} {tys : List (ClassId × FieldType)} {ws : va_W} {H0 : Heap}
theorem gz_zald (hexec : p.tables.exec = Jvm.exec) (hb : c.code = cc) (hK : va_K D cl tys s) (hP : va_P D cl ws H) (q0 t0 : Nat) {cA : ClassId} {n : Nat} {f : Nat → Int32} (ha : ws[q0]? = some (a, .inl (cA, n, .inl f))) (ht : tys[t0]? = some (cA, .boolean)) {k : Nat} (hk : k < n) (hn : n < 2 ^ 31) (hdg : decode cc pc = .ok (.baload, 1))
    (kk : W p l e R s m args below meth c H locs cells slots Q (F0 m (pc + 1) ls (.int (f k) :: rest))) : W p l e R s m args below meth c H locs cells slots Q (F0 m pc ls (.int (nI k) :: .ref a :: rest)) :=
  va_zald hexec hb hK hP q0 t0 ha ht (vp_in_nI hk hn) hdg (by rw [nI_clamp (Nat.lt_trans hk hn)]; exact kk)
theorem gz_zast (hexec : p.tables.exec = Jvm.exec) (hb : c.code = cc) (hK : va_K D cl tys s) (hP : va_P D cl ws H) (hD : va_D A ws) (hS : va_S A H0 H locs) (q0 t0 : Nat) {cA : ClassId} {n : Nat} {f : Nat → Int32} (ha : ws[q0]? = some (a, .inl (cA, n, .inl f))) (ht : tys[t0]? = some (cA, .boolean)) {k : Nat} {x : Int32} (hx : vp_nar .boolean x = x) (hk : k < n) (hn : n < 2 ^ 31) (hdg : decode cc pc = .ok (.bastore, 1))
    (kk : ∀ (H1 : Heap) (locs1 : List Loc), va_P D cl (ws.set q0 (a, .inl (cA, n, .inl (upd f k x)))) H1 → va_D A (ws.set q0 (a, .inl (cA, n, .inl (upd f k x)))) → va_S A H0 H1 locs1 → W p l e R s m args below meth c H1 locs1 cells slots Q (F0 m (pc + 1) ls rest)) : W p l e R s m args below meth c H locs cells slots Q (F0 m pc ls (.int x :: .int (nI k) :: .ref a :: rest)) :=
  va_zast hexec hb hK hP hD hS q0 t0 ha ht (vp_in_nI hk hn) hdg (by rw [nI_clamp (Nat.lt_trans hk hn), hx]; exact kk)
end GzRows2
theorem gz_nar1 : vp_nar .boolean (nI 1) = nI 1 := by decide
theorem gz_nar0 : vp_nar .boolean (nI 0) = nI 0 := by decide
/-- the steps of each kind, as the class's static table has them -/
def gKS (j : Nat) : Value := .int (nI (ksN j))
abbrev gPk (D : va_G) (cl : List vw_C) (tys : List (ClassId × FieldType)) (tK : Nat) (av : List Value) (ws : va_W) : Array Value → State → Prop :=
  va_Pc av (fun U => va_P D cl ws U.heap ∧ va_K D cl tys U ∧ va_Z RX0 "KIND_STEPS" "[I" (.ref tK) (fun _ => False) U U.heap ∧ va_T .int tK 10 gKS (fun _ => False) U U.heap)
theorem gz_preVs {s : State} {H : Heap} {D : va_G} {cl : List vw_C} {tys : List (ClassId × FieldType)} {ws wc : va_W} {q : vw_C} {fs : List Value} {b ci tK : Nat} {As : List Value} (hK : va_K D cl tys s) (hP : va_P D cl ws H) (hZ : va_Z RX0 "KIND_STEPS" "[I" (.ref tK) (fun _ => False) s H) (hT : va_T .int tK 10 gKS (fun _ => False) s H) (isC : List Nat) (hs : isC.filterMap (fun i => ws[i]?) = wc) (hc : cl[ci]? = some q) (he : wc[0]? = some (b, .inr (ci, fs))) :
    PreV s H q.1 b (gPk D cl tys tK (.ref b :: As) wc) As :=
  ⟨fun _ U _ _ h => ⟨h.1, h.2.1, va_K.moved (Vm.Alike.refl U.vm) h.2.2.1, va_Z.moved (Vm.Alike.refl U.vm) h.2.2.2.1, va_T.moved (Vm.Alike.refl U.vm) h.2.2.2.2⟩, va_recv hK (hP.sub isC hs) hc he, fun U hU hW => ⟨rfl, by rw [hU]; exact hP.sub isC hs, va_K.moved hW.alike hK, by rw [hU]; exact hZ.moved hW.alike, by rw [hU]; exact hT.moved hW.alike⟩⟩
theorem gGr_sub {fl : Nat → Int32} {j i rn : Nat} (h01 : fl (i * 13 + j) = nI 0 ∨ fl (i * 13 + j) = nI 1) (hi : i < rn) : nI (rn - gGr fl j i) - fl (i * 13 + j) = nI (rn - gGr fl j (i + 1)) := by
  have h1 := gGr_le fl j i
  have e : gGr fl j (i + 1) = (if fl (i * 13 + j) = nI 1 then gGr fl j i + 1 else gGr fl j i) := rfl
  rcases h01 with h | h
  · rw [e, h, if_neg (by decide), pk_sub (by omega), Nat.sub_zero]
  · rw [e, h, if_pos rfl, pk_sub (by omega), Nat.sub_sub]
def gRow : Nat → Int32
  | 0 => -1
  | k + 1 => nI k
theorem gRow_dec (k : Nat) : nI k + Int32.ofInt (-1) = gRow k := by
  cases k with
  | zero => decide
  | succ k => exact pk_m1 k
theorem gRow_top {rn : Nat} (h : 1 ≤ rn) : nI rn - nI 2 = gRow (rn - 1) := by
  obtain ⟨k, rfl⟩ : ∃ k, rn = k + 1 := ⟨rn - 1, by omega⟩
  cases k with
  | zero => decide
  | succ k =>
    rw [pk_sub (by omega)]
    rfl
end
section
set_option maxHeartbeats 4000000 in
set_option maxRecDepth 100000 in
theorem cG_cellAt (l : Launch) (i j : Nat)  : Met l yX0_cellAt wsX0_cellAt ({ frames := 0, cells := 0, slots := 0, locals := 0 }) (fun vv _ => vv = ([.int (nI i), .int (nI j)] : List Value).toArray) (QcRead (nI (i * 12 + j))) 0 0 (fun _ => False) := by
  refine Met.ofW (cc := cX0_cellAt) (maxL := 2) (ret := (some .int)) (by decide) rfl ?_
  intro p e s m args below meth c s₁ B hml hv
  subst hv
  have hx := B.exec
  have hb := B.bytes
  have hr := B.returns
  have hts := atoms_spec (ws := wsX0_cellAt) B.pre
  have hown : s.vm.findClass RX0 = some m.cls := findClass_of_methodNamed B.named
  have hlocks := B.notSynchronized
  have hl := lv_entry ([.int (nI i), .int (nI j)]) (n := 2) (Nat.le_of_ble_eq_true rfl)
  rw [lg_entry_eq]
  generalize (lg_sl ([.int (nI i), .int (nI j)]) ++ List.replicate (2 - (lg_sl ([.int (nI i), .int (nI j)])).length) Slot.unset).toArray = ls at hl ⊢
  have hl : lv_has ls 2 [(0, .int (nI i)), (1, .int (nI j))] := hl
  refine lv_iload_n hx hb dX0_cellAt_0 rfl (lv_at hl 0 rfl) ?_
  refine lv_bipush (v := nI 12) hx hb dX0_cellAt_1 (by decide) ?_
  refine gz_imul (i := i) (j := 12) hx hb dX0_cellAt_3 ?_
  refine lv_iload_n hx hb dX0_cellAt_4 rfl (lv_at hl 1 rfl) ?_
  refine gz_iadd (i := i * 12) (j := j) hx hb dX0_cellAt_5 ?_
  exact W.iret (v := nI ((i * 12) + j)) hx hb hr (fun t ht hW => ⟨rfl, ht⟩) (fun q h => absurd h List.not_mem_nil) dX0_cellAt_6
set_option maxHeartbeats 4000000 in
set_option maxRecDepth 100000 in
theorem cG_pointAt (l : Launch) (i j : Nat)  : Met l yX0_pointAt wsX0_pointAt ({ frames := 0, cells := 0, slots := 0, locals := 0 }) (fun vv _ => vv = ([.int (nI i), .int (nI j)] : List Value).toArray) (QcRead (nI (i * 13 + j))) 0 0 (fun _ => False) := by
  refine Met.ofW (cc := cX0_pointAt) (maxL := 2) (ret := (some .int)) (by decide) rfl ?_
  intro p e s m args below meth c s₁ B hml hv
  subst hv
  have hx := B.exec
  have hb := B.bytes
  have hr := B.returns
  have hts := atoms_spec (ws := wsX0_pointAt) B.pre
  have hown : s.vm.findClass RX0 = some m.cls := findClass_of_methodNamed B.named
  have hlocks := B.notSynchronized
  have hl := lv_entry ([.int (nI i), .int (nI j)]) (n := 2) (Nat.le_of_ble_eq_true rfl)
  rw [lg_entry_eq]
  generalize (lg_sl ([.int (nI i), .int (nI j)]) ++ List.replicate (2 - (lg_sl ([.int (nI i), .int (nI j)])).length) Slot.unset).toArray = ls at hl ⊢
  have hl : lv_has ls 2 [(0, .int (nI i)), (1, .int (nI j))] := hl
  refine lv_iload_n hx hb dX0_pointAt_0 rfl (lv_at hl 0 rfl) ?_
  refine lv_bipush (v := nI 13) hx hb dX0_pointAt_1 (by decide) ?_
  refine gz_imul (i := i) (j := 13) hx hb dX0_pointAt_3 ?_
  refine lv_iload_n hx hb dX0_pointAt_4 rfl (lv_at hl 1 rfl) ?_
  refine gz_iadd (i := i * 13) (j := j) hx hb dX0_pointAt_5 ?_
  exact W.iret (v := nI ((i * 13) + j)) hx hb hr (fun t ht hW => ⟨rfl, ht⟩) (fun q h => absurd h List.not_mem_nil) dX0_pointAt_6
set_option maxHeartbeats 4000000 in
set_option maxRecDepth 100000 in
theorem cG_isCoil (l : Launch) (x : Int32)  : Met l yX0_isCoil wsX0_isCoil ({ frames := 0, cells := 0, slots := 0, locals := 0 }) (fun vv _ => vv = ([.int x] : List Value).toArray) (QcRead (if 6 ≤ x.toInt then nI 1 else nI 0)) 0 0 (fun _ => False) := by
  refine Met.ofW (cc := cX0_isCoil) (maxL := 1) (ret := (some .boolean)) (by decide) rfl ?_
  intro p e s m args below meth c s₁ B hml hv
  subst hv
  have hx := B.exec
  have hb := B.bytes
  have hr := B.returns
  have hts := atoms_spec (ws := wsX0_isCoil) B.pre
  have hown : s.vm.findClass RX0 = some m.cls := findClass_of_methodNamed B.named
  have hlocks := B.notSynchronized
  have hl := lv_entry ([.int x]) (n := 1) (Nat.le_of_ble_eq_true rfl)
  rw [lg_entry_eq]
  generalize (lg_sl ([.int x]) ++ List.replicate (1 - (lg_sl ([.int x])).length) Slot.unset).toArray = ls at hl ⊢
  have hl : lv_has ls 1 [(0, .int (x))] := hl
  refine lv_iload_n hx hb dX0_isCoil_0 rfl (lv_at hl 0 rfl) ?_
  refine lv_bipush (v := nI 6) hx hb dX0_isCoil_1 (by decide) ?_
  refine gz_icmp_lt (tgt := 10) (za := x.toInt) (zb := ((6 : Nat) : Int)) hx hb dX0_isCoil_3 (by decide) rfl (nI_toInt (by omega)) (fun c_1 => ?_) (fun c_1 => ?_)
  · skip
    refine lv_iconst (v := nI 0) hx hb dX0_isCoil_10 (by decide) ?_
    exact W.zret (v := nI 0) hx hb hr rfl (fun t ht hW => ⟨(by first | rfl | (rw [if_pos (by first | assumption | omega)]) | (rw [if_neg (by first | assumption | omega)])), ht⟩) (fun q h => absurd h List.not_mem_nil) dX0_isCoil_11
  · skip
    refine lv_iconst (v := nI 1) hx hb dX0_isCoil_6 (by decide) ?_
    refine lv_goto (tgt := 11) hx hb dX0_isCoil_7 (by decide) ?_
    exact W.zret (v := nI 1) hx hb hr rfl (fun t ht hW => ⟨(by first | rfl | (rw [if_pos (by first | assumption | omega)]) | (rw [if_neg (by first | assumption | omega)])), ht⟩) (fun q h => absurd h List.not_mem_nil) dX0_isCoil_11
set_option maxHeartbeats 4000000 in
set_option maxRecDepth 100000 in
theorem cG_hasVariable (l : Launch) (x : Int32)  : Met l yX0_hasVariable wsX0_hasVariable ({ frames := 0, cells := 0, slots := 0, locals := 0 }) (fun vv _ => vv = ([.int x] : List Value).toArray) (QcRead (if 2 ≤ x.toInt then nI 1 else nI 0)) 0 0 (fun _ => False) := by
  refine Met.ofW (cc := cX0_hasVariable) (maxL := 1) (ret := (some .boolean)) (by decide) rfl ?_
  intro p e s m args below meth c s₁ B hml hv
  subst hv
  have hx := B.exec
  have hb := B.bytes
  have hr := B.returns
  have hts := atoms_spec (ws := wsX0_hasVariable) B.pre
  have hown : s.vm.findClass RX0 = some m.cls := findClass_of_methodNamed B.named
  have hlocks := B.notSynchronized
  have hl := lv_entry ([.int x]) (n := 1) (Nat.le_of_ble_eq_true rfl)
  rw [lg_entry_eq]
  generalize (lg_sl ([.int x]) ++ List.replicate (1 - (lg_sl ([.int x])).length) Slot.unset).toArray = ls at hl ⊢
  have hl : lv_has ls 1 [(0, .int (x))] := hl
  refine lv_iload_n hx hb dX0_hasVariable_0 rfl (lv_at hl 0 rfl) ?_
  refine lv_iconst (v := nI 2) hx hb dX0_hasVariable_1 (by decide) ?_
  refine gz_icmp_lt (tgt := 9) (za := x.toInt) (zb := ((2 : Nat) : Int)) hx hb dX0_hasVariable_2 (by decide) rfl (nI_toInt (by omega)) (fun c_1 => ?_) (fun c_1 => ?_)
  · skip
    refine lv_iconst (v := nI 0) hx hb dX0_hasVariable_9 (by decide) ?_
    exact W.zret (v := nI 0) hx hb hr rfl (fun t ht hW => ⟨(by first | rfl | (rw [if_pos (by first | assumption | omega)]) | (rw [if_neg (by first | assumption | omega)])), ht⟩) (fun q h => absurd h List.not_mem_nil) dX0_hasVariable_10
  · skip
    refine lv_iconst (v := nI 1) hx hb dX0_hasVariable_5 (by decide) ?_
    refine lv_goto (tgt := 10) hx hb dX0_hasVariable_6 (by decide) ?_
    exact W.zret (v := nI 1) hx hb hr rfl (fun t ht hW => ⟨(by first | rfl | (rw [if_pos (by first | assumption | omega)]) | (rw [if_neg (by first | assumption | omega)])), ht⟩) (fun q h => absurd h List.not_mem_nil) dX0_hasVariable_10
set_option maxHeartbeats 4000000 in
set_option maxRecDepth 100000 in
theorem cG_isVariable (l : Launch) (x : Int32)  : Met l yX0_isVariable wsX0_isVariable ({ frames := 0, cells := 0, slots := 0, locals := 0 }) (fun vv _ => vv = ([.int x] : List Value).toArray) (QcRead (if 0 ≤ x.toInt ∧ x.toInt < 40 then nI 1 else nI 0)) 0 0 (fun _ => False) := by
  refine Met.ofW (cc := cX0_isVariable) (maxL := 1) (ret := (some .boolean)) (by decide) rfl ?_
  intro p e s m args below meth c s₁ B hml hv
  subst hv
  have hx := B.exec
  have hb := B.bytes
  have hr := B.returns
  have hts := atoms_spec (ws := wsX0_isVariable) B.pre
  have hown : s.vm.findClass RX0 = some m.cls := findClass_of_methodNamed B.named
  have hlocks := B.notSynchronized
  have hl := lv_entry ([.int x]) (n := 1) (Nat.le_of_ble_eq_true rfl)
  rw [lg_entry_eq]
  generalize (lg_sl ([.int x]) ++ List.replicate (1 - (lg_sl ([.int x])).length) Slot.unset).toArray = ls at hl ⊢
  have hl : lv_has ls 1 [(0, .int (x))] := hl
  refine lv_iload_n hx hb dX0_isVariable_0 rfl (lv_at hl 0 rfl) ?_
  refine gz_if_lt (tgt := 14) (za := x.toInt) hx hb dX0_isVariable_1 (by decide) rfl (fun c_1 => ?_) (fun c_1 => ?_)
  · skip
    refine lv_iconst (v := nI 0) hx hb dX0_isVariable_14 (by decide) ?_
    exact W.zret (v := nI 0) hx hb hr rfl (fun t ht hW => ⟨(by first | rfl | (rw [if_pos (by first | assumption | omega)]) | (rw [if_neg (by first | assumption | omega)])), ht⟩) (fun q h => absurd h List.not_mem_nil) dX0_isVariable_15
  · skip
    refine lv_iload_n hx hb dX0_isVariable_4 rfl (lv_at hl 0 rfl) ?_
    refine lv_bipush (v := nI 40) hx hb dX0_isVariable_5 (by decide) ?_
    refine gz_icmp_ge (tgt := 14) (za := x.toInt) (zb := ((40 : Nat) : Int)) hx hb dX0_isVariable_7 (by decide) rfl (nI_toInt (by omega)) (fun c_2 => ?_) (fun c_2 => ?_)
    · skip
      refine lv_iconst (v := nI 0) hx hb dX0_isVariable_14 (by decide) ?_
      exact W.zret (v := nI 0) hx hb hr rfl (fun t ht hW => ⟨(by first | rfl | (rw [if_pos (by first | assumption | omega)]) | (rw [if_neg (by first | assumption | omega)])), ht⟩) (fun q h => absurd h List.not_mem_nil) dX0_isVariable_15
    · skip
      refine lv_iconst (v := nI 1) hx hb dX0_isVariable_10 (by decide) ?_
      refine lv_goto (tgt := 15) hx hb dX0_isVariable_11 (by decide) ?_
      exact W.zret (v := nI 1) hx hb hr rfl (fun t ht hW => ⟨(by first | rfl | (rw [if_pos (by first | assumption | omega)]) | (rw [if_neg (by first | assumption | omega)])), ht⟩) (fun q h => absurd h List.not_mem_nil) dX0_isVariable_15
set_option maxHeartbeats 4000000 in
set_option maxRecDepth 100000 in
theorem cG_joiningSteps (l : Launch) (i : Nat) (h12 : i ≤ 1000) : Met l yX0_joiningSteps wsX0_joiningSteps ({ frames := 0, cells := 0, slots := 0, locals := 0 }) (fun vv _ => vv = ([.int (nI i)] : List Value).toArray) (QcRead (nI (if i = 0 then 1 else i - 1))) 0 0 (fun _ => False) := by
  refine Met.ofW (cc := cX0_joiningSteps) (maxL := 1) (ret := (some .int)) (by decide) rfl ?_
  intro p e s m args below meth c s₁ B hml hv
  subst hv
  have hx := B.exec
  have hb := B.bytes
  have hr := B.returns
  have hts := atoms_spec (ws := wsX0_joiningSteps) B.pre
  have hown : s.vm.findClass RX0 = some m.cls := findClass_of_methodNamed B.named
  have hlocks := B.notSynchronized
  have hl := lv_entry ([.int (nI i)]) (n := 1) (Nat.le_of_ble_eq_true rfl)
  rw [lg_entry_eq]
  generalize (lg_sl ([.int (nI i)]) ++ List.replicate (1 - (lg_sl ([.int (nI i)])).length) Slot.unset).toArray = ls at hl ⊢
  have hl : lv_has ls 1 [(0, .int (nI i))] := hl
  by_cases hi : i = 0
  · subst hi
    refine lv_iload_n hx hb dX0_joiningSteps_0 rfl (lv_at hl 0 rfl) ?_
    refine lv_if_ne (tgt := 8) hx hb dX0_joiningSteps_1 (by decide) (fun c_1 => False.elim (c_1 rfl)) (fun c_1 => ?_)
    refine lv_iconst (v := nI 1) hx hb dX0_joiningSteps_4 (by decide) ?_
    refine lv_goto (tgt := 11) hx hb dX0_joiningSteps_5 (by decide) ?_
    exact W.iret (v := nI 1) hx hb hr (fun t ht hW => ⟨(by first | rfl | (rw [if_neg hi])), ht⟩) (fun q h => absurd h List.not_mem_nil) dX0_joiningSteps_11
  · skip
    refine lv_iload_n hx hb dX0_joiningSteps_0 rfl (lv_at hl 0 rfl) ?_
    refine lv_if_ne (tgt := 8) hx hb dX0_joiningSteps_1 (by decide) (fun c_1 => ?_) (fun c_1 => False.elim (gz_ne0 hi (by omega) c_1))
    refine lv_iload_n hx hb dX0_joiningSteps_8 rfl (lv_at hl 0 rfl) ?_
    refine lv_iconst (v := nI 1) hx hb dX0_joiningSteps_9 (by decide) ?_
    refine gz_isub (i := i) (j := 1) hx hb dX0_joiningSteps_10 (by omega) ?_
    exact W.iret (v := nI (i - 1)) hx hb hr (fun t ht hW => ⟨(by first | rfl | (rw [if_neg hi])), ht⟩) (fun q h => absurd h List.not_mem_nil) dX0_joiningSteps_11
set_option maxHeartbeats 4000000 in
set_option maxRecDepth 100000 in
theorem cG_letsThrough (l : Launch) (k v sn : Int32)  : Met l yX0_letsThrough wsX0_letsThrough ({ frames := 0, cells := 0, slots := 0, locals := 0 }) (fun vv _ => vv = ([.int k, .int v, .int sn] : List Value).toArray) (QcRead (gLets k v sn)) 0 0 (fun _ => False) := by
  refine Met.ofW (cc := cX0_letsThrough) (maxL := 3) (ret := (some .boolean)) (by decide) rfl ?_
  intro p e s m args below meth c s₁ B hml hv
  subst hv
  have hx := B.exec
  have hb := B.bytes
  have hr := B.returns
  have hts := atoms_spec (ws := wsX0_letsThrough) B.pre
  have hown : s.vm.findClass RX0 = some m.cls := findClass_of_methodNamed B.named
  have hlocks := B.notSynchronized
  have hl := lv_entry ([.int k, .int v, .int sn]) (n := 3) (Nat.le_of_ble_eq_true rfl)
  rw [lg_entry_eq]
  generalize (lg_sl ([.int k, .int v, .int sn]) ++ List.replicate (3 - (lg_sl ([.int k, .int v, .int sn])).length) Slot.unset).toArray = ls at hl ⊢
  have hl : lv_has ls 3 [(0, .int (k)), (1, .int (v)), (2, .int (sn))] := hl
  by_cases hk1 : k = nI 1
  · subst hk1
    refine lv_iload_n hx hb dX0_letsThrough_0 rfl (lv_at hl 0 rfl) ?_
    refine lv_tableIn (tgt := 36) hx hb dX0_letsThrough_1 (by decide) (by decide) rfl (by decide) ?_
    refine lv_iconst (v := nI 1) hx hb dX0_letsThrough_36 (by decide) ?_
    exact W.zret (v := nI 1) hx hb hr rfl (fun t ht hW => ⟨(by unfold gLets; rw [if_pos rfl]; try (first | rfl | (rw [if_pos (by assumption)]; done) | (rw [if_neg (by assumption)]; done) | (rw [if_pos (by assumption), if_pos (by assumption)]; done) | (rw [if_pos (by assumption), if_neg (by assumption)]; done))), ht⟩) (fun q h => absurd h List.not_mem_nil) dX0_letsThrough_37
  by_cases hk2 : k = nI 2
  · subst hk2
    refine lv_iload_n hx hb dX0_letsThrough_0 rfl (lv_at hl 0 rfl) ?_
    refine lv_tableIn (tgt := 38) hx hb dX0_letsThrough_1 (by decide) (by decide) rfl (by decide) ?_
    refine lv_iload_n hx hb dX0_letsThrough_38 rfl (lv_at hl 1 rfl) ?_
    refine lv_iconst (v := nI 1) hx hb dX0_letsThrough_39 (by decide) ?_
    refine lv_icmp_ne (tgt := 47) hx hb dX0_letsThrough_40 (by decide) (fun c_1 => ?_) (fun c_1 => ?_)
    · skip
      refine lv_iconst (v := nI 0) hx hb dX0_letsThrough_47 (by decide) ?_
      exact W.zret (v := nI 0) hx hb hr rfl (fun t ht hW => ⟨(by unfold gLets; rw [if_neg (by decide), if_pos rfl]; try (first | rfl | (rw [if_pos (by assumption)]; done) | (rw [if_neg (by assumption)]; done) | (rw [if_pos (by assumption), if_pos (by assumption)]; done) | (rw [if_pos (by assumption), if_neg (by assumption)]; done))), ht⟩) (fun q h => absurd h List.not_mem_nil) dX0_letsThrough_48
    · skip
      refine lv_iconst (v := nI 1) hx hb dX0_letsThrough_43 (by decide) ?_
      refine lv_goto (tgt := 48) hx hb dX0_letsThrough_44 (by decide) ?_
      exact W.zret (v := nI 1) hx hb hr rfl (fun t ht hW => ⟨(by unfold gLets; rw [if_neg (by decide), if_pos rfl]; try (first | rfl | (rw [if_pos (by assumption)]; done) | (rw [if_neg (by assumption)]; done) | (rw [if_pos (by assumption), if_pos (by assumption)]; done) | (rw [if_pos (by assumption), if_neg (by assumption)]; done))), ht⟩) (fun q h => absurd h List.not_mem_nil) dX0_letsThrough_48
  by_cases hk3 : k = nI 3
  · subst hk3
    refine lv_iload_n hx hb dX0_letsThrough_0 rfl (lv_at hl 0 rfl) ?_
    refine lv_tableIn (tgt := 49) hx hb dX0_letsThrough_1 (by decide) (by decide) rfl (by decide) ?_
    refine lv_iload_n hx hb dX0_letsThrough_49 rfl (lv_at hl 1 rfl) ?_
    refine lv_if_ne (tgt := 57) hx hb dX0_letsThrough_50 (by decide) (fun c_1 => ?_) (fun c_1 => ?_)
    · skip
      refine lv_iconst (v := nI 0) hx hb dX0_letsThrough_57 (by decide) ?_
      exact W.zret (v := nI 0) hx hb hr rfl (fun t ht hW => ⟨(by unfold gLets; rw [if_neg (by decide), if_neg (by decide), if_pos rfl]; try (first | rfl | (rw [if_pos (by assumption)]; done) | (rw [if_neg (by assumption)]; done) | (rw [if_pos (by assumption), if_pos (by assumption)]; done) | (rw [if_pos (by assumption), if_neg (by assumption)]; done))), ht⟩) (fun q h => absurd h List.not_mem_nil) dX0_letsThrough_58
    · skip
      refine lv_iconst (v := nI 1) hx hb dX0_letsThrough_53 (by decide) ?_
      refine lv_goto (tgt := 58) hx hb dX0_letsThrough_54 (by decide) ?_
      exact W.zret (v := nI 1) hx hb hr rfl (fun t ht hW => ⟨(by unfold gLets; rw [if_neg (by decide), if_neg (by decide), if_pos rfl]; try (first | rfl | (rw [if_pos (by assumption)]; done) | (rw [if_neg (by assumption)]; done) | (rw [if_pos (by assumption), if_pos (by assumption)]; done) | (rw [if_pos (by assumption), if_neg (by assumption)]; done))), ht⟩) (fun q h => absurd h List.not_mem_nil) dX0_letsThrough_58
  by_cases hk4 : k = nI 4
  · subst hk4
    refine lv_iload_n hx hb dX0_letsThrough_0 rfl (lv_at hl 0 rfl) ?_
    refine lv_tableIn (tgt := 59) hx hb dX0_letsThrough_1 (by decide) (by decide) rfl (by decide) ?_
    refine lv_iload_n hx hb dX0_letsThrough_59 rfl (lv_at hl 1 rfl) ?_
    refine lv_iconst (v := nI 1) hx hb dX0_letsThrough_60 (by decide) ?_
    refine lv_icmp_ne (tgt := 72) hx hb dX0_letsThrough_61 (by decide) (fun c_1 => ?_) (fun c_1 => ?_)
    · skip
      refine lv_iconst (v := nI 0) hx hb dX0_letsThrough_72 (by decide) ?_
      exact W.zret (v := nI 0) hx hb hr rfl (fun t ht hW => ⟨(by unfold gLets; rw [if_neg (by decide), if_neg (by decide), if_neg (by decide), if_pos rfl]; try (first | rfl | (rw [if_pos (by assumption)]; done) | (rw [if_neg (by assumption)]; done) | (rw [if_pos (by assumption), if_pos (by assumption)]; done) | (rw [if_pos (by assumption), if_neg (by assumption)]; done))), ht⟩) (fun q h => absurd h List.not_mem_nil) dX0_letsThrough_73
    · skip
      refine lv_iload_n hx hb dX0_letsThrough_64 rfl (lv_at hl 2 rfl) ?_
      refine lv_if_ne (tgt := 72) hx hb dX0_letsThrough_65 (by decide) (fun c_2 => ?_) (fun c_2 => ?_)
      · skip
        refine lv_iconst (v := nI 0) hx hb dX0_letsThrough_72 (by decide) ?_
        exact W.zret (v := nI 0) hx hb hr rfl (fun t ht hW => ⟨(by unfold gLets; rw [if_neg (by decide), if_neg (by decide), if_neg (by decide), if_pos rfl]; try (first | rfl | (rw [if_pos (by assumption)]; done) | (rw [if_neg (by assumption)]; done) | (rw [if_pos (by assumption), if_pos (by assumption)]; done) | (rw [if_pos (by assumption), if_neg (by assumption)]; done))), ht⟩) (fun q h => absurd h List.not_mem_nil) dX0_letsThrough_73
      · skip
        refine lv_iconst (v := nI 1) hx hb dX0_letsThrough_68 (by decide) ?_
        refine lv_goto (tgt := 73) hx hb dX0_letsThrough_69 (by decide) ?_
        exact W.zret (v := nI 1) hx hb hr rfl (fun t ht hW => ⟨(by unfold gLets; rw [if_neg (by decide), if_neg (by decide), if_neg (by decide), if_pos rfl]; try (first | rfl | (rw [if_pos (by assumption)]; done) | (rw [if_neg (by assumption)]; done) | (rw [if_pos (by assumption), if_pos (by assumption)]; done) | (rw [if_pos (by assumption), if_neg (by assumption)]; done))), ht⟩) (fun q h => absurd h List.not_mem_nil) dX0_letsThrough_73
  by_cases hk5 : k = nI 5
  · subst hk5
    refine lv_iload_n hx hb dX0_letsThrough_0 rfl (lv_at hl 0 rfl) ?_
    refine lv_tableIn (tgt := 74) hx hb dX0_letsThrough_1 (by decide) (by decide) rfl (by decide) ?_
    refine lv_iload_n hx hb dX0_letsThrough_74 rfl (lv_at hl 1 rfl) ?_
    refine lv_if_ne (tgt := 87) hx hb dX0_letsThrough_75 (by decide) (fun c_1 => ?_) (fun c_1 => ?_)
    · skip
      refine lv_iconst (v := nI 0) hx hb dX0_letsThrough_87 (by decide) ?_
      exact W.zret (v := nI 0) hx hb hr rfl (fun t ht hW => ⟨(by unfold gLets; rw [if_neg (by decide), if_neg (by decide), if_neg (by decide), if_neg (by decide), if_pos rfl]; try (first | rfl | (rw [if_pos (by assumption)]; done) | (rw [if_neg (by assumption)]; done) | (rw [if_pos (by assumption), if_pos (by assumption)]; done) | (rw [if_pos (by assumption), if_neg (by assumption)]; done))), ht⟩) (fun q h => absurd h List.not_mem_nil) dX0_letsThrough_88
    · skip
      refine lv_iload_n hx hb dX0_letsThrough_78 rfl (lv_at hl 2 rfl) ?_
      refine lv_iconst (v := nI 1) hx hb dX0_letsThrough_79 (by decide) ?_
      refine lv_icmp_ne (tgt := 87) hx hb dX0_letsThrough_80 (by decide) (fun c_2 => ?_) (fun c_2 => ?_)
      · skip
        refine lv_iconst (v := nI 0) hx hb dX0_letsThrough_87 (by decide) ?_
        exact W.zret (v := nI 0) hx hb hr rfl (fun t ht hW => ⟨(by unfold gLets; rw [if_neg (by decide), if_neg (by decide), if_neg (by decide), if_neg (by decide), if_pos rfl]; try (first | rfl | (rw [if_pos (by assumption)]; done) | (rw [if_neg (by assumption)]; done) | (rw [if_pos (by assumption), if_pos (by assumption)]; done) | (rw [if_pos (by assumption), if_neg (by assumption)]; done))), ht⟩) (fun q h => absurd h List.not_mem_nil) dX0_letsThrough_88
      · skip
        refine lv_iconst (v := nI 1) hx hb dX0_letsThrough_83 (by decide) ?_
        refine lv_goto (tgt := 88) hx hb dX0_letsThrough_84 (by decide) ?_
        exact W.zret (v := nI 1) hx hb hr rfl (fun t ht hW => ⟨(by unfold gLets; rw [if_neg (by decide), if_neg (by decide), if_neg (by decide), if_neg (by decide), if_pos rfl]; try (first | rfl | (rw [if_pos (by assumption)]; done) | (rw [if_neg (by assumption)]; done) | (rw [if_pos (by assumption), if_pos (by assumption)]; done) | (rw [if_pos (by assumption), if_neg (by assumption)]; done))), ht⟩) (fun q h => absurd h List.not_mem_nil) dX0_letsThrough_88
  refine lv_iload_n hx hb dX0_letsThrough_0 rfl (lv_at hl 0 rfl) ?_
  have hout : k.toInt < 1 ∨ 5 < k.toInt := by
    have t1 : ¬ k.toInt = 1 := lv_neT hk1 (by decide)
    have t2 : ¬ k.toInt = 2 := lv_neT hk2 (by decide)
    have t3 : ¬ k.toInt = 3 := lv_neT hk3 (by decide)
    have t4 : ¬ k.toInt = 4 := lv_neT hk4 (by decide)
    have t5 : ¬ k.toInt = 5 := lv_neT hk5 (by decide)
    omega
  refine lv_tableOut (tgt := 89) hx hb dX0_letsThrough_1 hout (by decide) ?_
  refine lv_iconst (v := nI 0) hx hb dX0_letsThrough_89 (by decide) ?_
  exact W.zret (v := nI 0) hx hb hr rfl (fun t ht hW => ⟨(by unfold gLets; rw [if_neg hk1, if_neg hk2, if_neg hk3, if_neg hk4, if_neg hk5]), ht⟩) (fun q h => absurd h List.not_mem_nil) dX0_letsThrough_90
set_option maxHeartbeats 4000000 in
set_option maxRecDepth 100000 in
theorem cG_coilValue (l : Launch) (k pw b : Int32)  : Met l yX0_coilValue wsX0_coilValue ({ frames := 0, cells := 0, slots := 0, locals := 0 }) (fun vv _ => vv = ([.int k, .int pw, .int b] : List Value).toArray) (QcRead (gCoil k pw b)) 0 0 (fun _ => False) := by
  refine Met.ofW (cc := cX0_coilValue) (maxL := 3) (ret := (some .int)) (by decide) rfl ?_
  intro p e s m args below meth c s₁ B hml hv
  subst hv
  have hx := B.exec
  have hb := B.bytes
  have hr := B.returns
  have hts := atoms_spec (ws := wsX0_coilValue) B.pre
  have hown : s.vm.findClass RX0 = some m.cls := findClass_of_methodNamed B.named
  have hlocks := B.notSynchronized
  have hl := lv_entry ([.int k, .int pw, .int b]) (n := 3) (Nat.le_of_ble_eq_true rfl)
  rw [lg_entry_eq]
  generalize (lg_sl ([.int k, .int pw, .int b]) ++ List.replicate (3 - (lg_sl ([.int k, .int pw, .int b])).length) Slot.unset).toArray = ls at hl ⊢
  have hl : lv_has ls 3 [(0, .int (k)), (1, .int (pw)), (2, .int (b))] := hl
  by_cases hk6 : k = nI 6
  · subst hk6
    refine lv_iload_n hx hb dX0_coilValue_0 rfl (lv_at hl 0 rfl) ?_
    refine lv_tableIn (tgt := 28) hx hb dX0_coilValue_1 (by decide) (by decide) rfl (by decide) ?_
    refine lv_iload_n hx hb dX0_coilValue_28 rfl (lv_at hl 1 rfl) ?_
    exact W.iret (v := pw) hx hb hr (fun t ht hW => ⟨(by unfold gCoil; rw [if_pos rfl]; try (first | rfl | (rw [if_pos (by assumption)]; done) | (rw [if_neg (by assumption)]; done))), ht⟩) (fun q h => absurd h List.not_mem_nil) dX0_coilValue_29
  by_cases hk7 : k = nI 7
  · subst hk7
    refine lv_iload_n hx hb dX0_coilValue_0 rfl (lv_at hl 0 rfl) ?_
    refine lv_tableIn (tgt := 30) hx hb dX0_coilValue_1 (by decide) (by decide) rfl (by decide) ?_
    refine lv_iconst (v := nI 1) hx hb dX0_coilValue_30 (by decide) ?_
    refine lv_iload_n hx hb dX0_coilValue_31 rfl (lv_at hl 1 rfl) ?_
    refine lv_isub hx hb dX0_coilValue_32 ?_
    exact W.iret (v := (nI 1) - pw) hx hb hr (fun t ht hW => ⟨(by unfold gCoil; rw [if_neg (by decide), if_pos rfl]; try (first | rfl | (rw [if_pos (by assumption)]; done) | (rw [if_neg (by assumption)]; done))), ht⟩) (fun q h => absurd h List.not_mem_nil) dX0_coilValue_33
  by_cases hk8 : k = nI 8
  · subst hk8
    refine lv_iload_n hx hb dX0_coilValue_0 rfl (lv_at hl 0 rfl) ?_
    refine lv_tableIn (tgt := 34) hx hb dX0_coilValue_1 (by decide) (by decide) rfl (by decide) ?_
    refine lv_iload_n hx hb dX0_coilValue_34 rfl (lv_at hl 1 rfl) ?_
    refine lv_iconst (v := nI 1) hx hb dX0_coilValue_35 (by decide) ?_
    refine lv_icmp_ne (tgt := 43) hx hb dX0_coilValue_36 (by decide) (fun c_1 => ?_) (fun c_1 => ?_)
    · skip
      refine lv_iload_n hx hb dX0_coilValue_43 rfl (lv_at hl 2 rfl) ?_
      exact W.iret (v := b) hx hb hr (fun t ht hW => ⟨(by unfold gCoil; rw [if_neg (by decide), if_neg (by decide), if_pos rfl]; try (first | rfl | (rw [if_pos (by assumption)]; done) | (rw [if_neg (by assumption)]; done))), ht⟩) (fun q h => absurd h List.not_mem_nil) dX0_coilValue_44
    · skip
      refine lv_iconst (v := nI 1) hx hb dX0_coilValue_39 (by decide) ?_
      refine lv_goto (tgt := 44) hx hb dX0_coilValue_40 (by decide) ?_
      exact W.iret (v := nI 1) hx hb hr (fun t ht hW => ⟨(by unfold gCoil; rw [if_neg (by decide), if_neg (by decide), if_pos rfl]; try (first | rfl | (rw [if_pos (by assumption)]; done) | (rw [if_neg (by assumption)]; done))), ht⟩) (fun q h => absurd h List.not_mem_nil) dX0_coilValue_44
  refine lv_iload_n hx hb dX0_coilValue_0 rfl (lv_at hl 0 rfl) ?_
  have hout : k.toInt < 6 ∨ 8 < k.toInt := by
    have t6 : ¬ k.toInt = 6 := lv_neT hk6 (by decide)
    have t7 : ¬ k.toInt = 7 := lv_neT hk7 (by decide)
    have t8 : ¬ k.toInt = 8 := lv_neT hk8 (by decide)
    omega
  refine lv_tableOut (tgt := 45) hx hb dX0_coilValue_1 hout (by decide) ?_
  refine lv_iload_n hx hb dX0_coilValue_45 rfl (lv_at hl 1 rfl) ?_
  refine lv_iconst (v := nI 1) hx hb dX0_coilValue_46 (by decide) ?_
  refine lv_icmp_ne (tgt := 54) hx hb dX0_coilValue_47 (by decide) (fun c_1 => ?_) (fun c_1 => ?_)
  · skip
    refine lv_iload_n hx hb dX0_coilValue_54 rfl (lv_at hl 2 rfl) ?_
    exact W.iret (v := b) hx hb hr (fun t ht hW => ⟨(by unfold gCoil; rw [if_neg hk6, if_neg hk7, if_neg hk8]; first | (rw [if_pos (by assumption)]; done) | (rw [if_neg (by assumption)]; done)), ht⟩) (fun q h => absurd h List.not_mem_nil) dX0_coilValue_55
  · skip
    refine lv_iconst (v := nI 0) hx hb dX0_coilValue_50 (by decide) ?_
    refine lv_goto (tgt := 55) hx hb dX0_coilValue_51 (by decide) ?_
    exact W.iret (v := nI 0) hx hb hr (fun t ht hW => ⟨(by unfold gCoil; rw [if_neg hk6, if_neg hk7, if_neg hk8]; first | (rw [if_pos (by assumption)]; done) | (rw [if_neg (by assumption)]; done)), ht⟩) (fun q h => absurd h List.not_mem_nil) dX0_coilValue_55
set_option maxHeartbeats 4000000 in
set_option maxRecDepth 100000 in
theorem cG_isRow (l : Launch) (dC : Nat → ClassId) (dI : Nat → Nat → Nat) (cA cZ : ClassId) (h qk qc qs ql qp qv : Nat) (fk fc fs fl fp fv : Nat → Int32) (rn cn : Nat) (sc x : Int32) (hrn : rn ≤ 12) (hcn : cn ≤ 12) : Met l yX0_isRow wsX0_isRow ({ frames := 0, cells := 0, slots := 0, locals := 0 }) (gPr (dC, dI) vwCl [(cA, .int), (cZ, .boolean)] [.ref h, .int x] (gw cA h qk qc qs ql qp qv fk fc fs fl fp fv (nI rn) (nI cn) sc)) (QcRead (if 0 ≤ x.toInt ∧ x.toInt < (rn : Int) then nI 1 else nI 0)) 0 0 (fun _ => False) := by
  refine Met.ofW (cc := cX0_isRow) (maxL := 2) (ret := (some .boolean)) (by decide) rfl ?_
  intro p e s m args below meth c s₁ B hml hv
  obtain ⟨rfl, hP, hK⟩ := hv
  have hx := B.exec
  have hb := B.bytes
  have hr := B.returns
  have hts := atoms_spec (ws := wsX0_isRow) B.pre
  have hown : s.vm.findClass RX0 = some m.cls := findClass_of_methodNamed B.named
  have hlocks := B.notSynchronized
  have hin0 : ∀ w ∈ u_ws RX0 TX0 9, w ∈ wsX0_isRow := by decide +kernel
  have lk28 := hts (.fieldLink RX0 28 "LadderGrid" "rows" "I") (by decide +kernel)
  have hl := lv_entry ([.ref h, .int x]) (n := 2) (Nat.le_of_ble_eq_true rfl)
  rw [lg_entry_eq]
  generalize (lg_sl ([.ref h, .int x]) ++ List.replicate (2 - (lg_sl ([.ref h, .int x])).length) Slot.unset).toArray = ls at hl ⊢
  have hl : lv_has ls 2 [(0, .ref h), (1, .int (x))] := hl
  refine lv_iload_n hx hb dX0_isRow_0 rfl (lv_at hl 1 rfl) ?_
  refine gz_if_lt (tgt := 16) (za := x.toInt) hx hb dX0_isRow_1 (by decide) rfl (fun c_1 => ?_) (fun c_1 => ?_)
  · skip
    refine lv_iconst (v := nI 0) hx hb dX0_isRow_16 (by decide) ?_
    exact W.zret (v := nI 0) hx hb hr rfl (fun t ht hW => ⟨(by first | rfl | (rw [if_pos (by first | assumption | omega)]) | (rw [if_neg (by first | assumption | omega)])), ht⟩) (fun q h => absurd h List.not_mem_nil) dX0_isRow_17
  · skip
    refine lv_iload_n hx hb dX0_isRow_4 rfl (lv_at hl 1 rfl) ?_
    refine lv_aload_n hx hb dX0_isRow_5 rfl (lv_at hl 0 rfl) ?_
    refine va_get (D := (dC, dI)) (ci := 0) (v := .int (nI rn)) (C := RX0) (T := TX0) (N := 9) hx hb hts hin0 hown hK hP 0 rfl rfl 6 (by decide) lk28 (fun _ h9 => h9) rfl dX0_isRow_6 ?_
    refine gz_icmp_ge (tgt := 16) (za := x.toInt) (zb := ((rn : Nat) : Int)) hx hb dX0_isRow_9 (by decide) rfl (nI_toInt (by omega)) (fun c_2 => ?_) (fun c_2 => ?_)
    · skip
      refine lv_iconst (v := nI 0) hx hb dX0_isRow_16 (by decide) ?_
      exact W.zret (v := nI 0) hx hb hr rfl (fun t ht hW => ⟨(by first | rfl | (rw [if_pos (by first | assumption | omega)]) | (rw [if_neg (by first | assumption | omega)])), ht⟩) (fun q h => absurd h List.not_mem_nil) dX0_isRow_17
    · skip
      refine lv_iconst (v := nI 1) hx hb dX0_isRow_12 (by decide) ?_
      refine lv_goto (tgt := 17) hx hb dX0_isRow_13 (by decide) ?_
      exact W.zret (v := nI 1) hx hb hr rfl (fun t ht hW => ⟨(by first | rfl | (rw [if_pos (by first | assumption | omega)]) | (rw [if_neg (by first | assumption | omega)])), ht⟩) (fun q h => absurd h List.not_mem_nil) dX0_isRow_17
set_option maxHeartbeats 4000000 in
set_option maxRecDepth 100000 in
theorem cG_isLine (l : Launch) (dC : Nat → ClassId) (dI : Nat → Nat → Nat) (cA cZ : ClassId) (h qk qc qs ql qp qv : Nat) (fk fc fs fl fp fv : Nat → Int32) (rn cn : Nat) (sc x : Int32) (hrn : rn ≤ 12) (hcn : cn ≤ 12) : Met l yX0_isLine wsX0_isLine ({ frames := 0, cells := 0, slots := 0, locals := 0 }) (gPr (dC, dI) vwCl [(cA, .int), (cZ, .boolean)] [.ref h, .int x] (gw cA h qk qc qs ql qp qv fk fc fs fl fp fv (nI rn) (nI cn) sc)) (QcRead (if 0 ≤ x.toInt ∧ x.toInt ≤ (cn : Int) then nI 1 else nI 0)) 0 0 (fun _ => False) := by
  refine Met.ofW (cc := cX0_isLine) (maxL := 2) (ret := (some .boolean)) (by decide) rfl ?_
  intro p e s m args below meth c s₁ B hml hv
  obtain ⟨rfl, hP, hK⟩ := hv
  have hx := B.exec
  have hb := B.bytes
  have hr := B.returns
  have hts := atoms_spec (ws := wsX0_isLine) B.pre
  have hown : s.vm.findClass RX0 = some m.cls := findClass_of_methodNamed B.named
  have hlocks := B.notSynchronized
  have hin0 : ∀ w ∈ u_ws RX0 TX0 9, w ∈ wsX0_isLine := by decide +kernel
  have lk32 := hts (.fieldLink RX0 32 "LadderGrid" "columns" "I") (by decide +kernel)
  have hl := lv_entry ([.ref h, .int x]) (n := 2) (Nat.le_of_ble_eq_true rfl)
  rw [lg_entry_eq]
  generalize (lg_sl ([.ref h, .int x]) ++ List.replicate (2 - (lg_sl ([.ref h, .int x])).length) Slot.unset).toArray = ls at hl ⊢
  have hl : lv_has ls 2 [(0, .ref h), (1, .int (x))] := hl
  refine lv_iload_n hx hb dX0_isLine_0 rfl (lv_at hl 1 rfl) ?_
  refine gz_if_lt (tgt := 16) (za := x.toInt) hx hb dX0_isLine_1 (by decide) rfl (fun c_1 => ?_) (fun c_1 => ?_)
  · skip
    refine lv_iconst (v := nI 0) hx hb dX0_isLine_16 (by decide) ?_
    exact W.zret (v := nI 0) hx hb hr rfl (fun t ht hW => ⟨(by first | rfl | (rw [if_pos (by first | assumption | omega)]) | (rw [if_neg (by first | assumption | omega)])), ht⟩) (fun q h => absurd h List.not_mem_nil) dX0_isLine_17
  · skip
    refine lv_iload_n hx hb dX0_isLine_4 rfl (lv_at hl 1 rfl) ?_
    refine lv_aload_n hx hb dX0_isLine_5 rfl (lv_at hl 0 rfl) ?_
    refine va_get (D := (dC, dI)) (ci := 0) (v := .int (nI cn)) (C := RX0) (T := TX0) (N := 9) hx hb hts hin0 hown hK hP 0 rfl rfl 7 (by decide) lk32 (fun _ h9 => h9) rfl dX0_isLine_6 ?_
    refine gz_icmp_gt (tgt := 16) (za := x.toInt) (zb := ((cn : Nat) : Int)) hx hb dX0_isLine_9 (by decide) rfl (nI_toInt (by omega)) (fun c_2 => ?_) (fun c_2 => ?_)
    · skip
      refine lv_iconst (v := nI 0) hx hb dX0_isLine_16 (by decide) ?_
      exact W.zret (v := nI 0) hx hb hr rfl (fun t ht hW => ⟨(by first | rfl | (rw [if_pos (by first | assumption | omega)]) | (rw [if_neg (by first | assumption | omega)])), ht⟩) (fun q h => absurd h List.not_mem_nil) dX0_isLine_17
    · skip
      refine lv_iconst (v := nI 1) hx hb dX0_isLine_12 (by decide) ?_
      refine lv_goto (tgt := 17) hx hb dX0_isLine_13 (by decide) ?_
      exact W.zret (v := nI 1) hx hb hr rfl (fun t ht hW => ⟨(by first | rfl | (rw [if_pos (by first | assumption | omega)]) | (rw [if_neg (by first | assumption | omega)])), ht⟩) (fun q h => absurd h List.not_mem_nil) dX0_isLine_17
end
section
set_option maxHeartbeats 4000000 in
set_option maxRecDepth 100000 in
theorem cG_get (l : Launch) (dC : Nat → ClassId) (dI : Nat → Nat → Nat) (cA cZ : ClassId) (h qk qc qs ql qp qv : Nat) (fk fc fs fl fp fv : Nat → Int32) (rn cn : Nat) (sc : Int32) (i : Nat) (hrn : 1 ≤ rn ∧ rn ≤ 12) (hcn : 1 ≤ cn ∧ cn ≤ 12) (hi : i < 40) : Met l yX0_get wsX0_get ({ frames := 1, cells := 0, slots := 0, locals := 20 }) (gPr (dC, dI) vwCl [(cA, .int), (cZ, .boolean)] [.ref h, .int (nI i)] (gw cA h qk qc qs ql qp qv fk fc fs fl fp fv (nI rn) (nI cn) sc)) (QcRead (fv i)) 0 0 (fun _ => False) := by
  refine Met.ofW (cc := cX0_get) (maxL := 2) (ret := (some .int)) (by decide) rfl ?_
  intro p e s m args below meth c s₁ B hml hv
  obtain ⟨rfl, hP, hK⟩ := hv
  have hx := B.exec
  have hb := B.bytes
  have hr := B.returns
  have hts := atoms_spec (ws := wsX0_get) B.pre
  have hown : s.vm.findClass RX0 = some m.cls := findClass_of_methodNamed B.named
  have hlocks := B.notSynchronized
  have hin0 : ∀ w ∈ u_ws RX0 TX0 9, w ∈ wsX0_get := by decide +kernel
  have lk25 := hts (.fieldLink RX0 25 "LadderGrid" "values" "[I") (by decide +kernel)
  have hl := lv_entry ([.ref h, .int (nI i)]) (n := 2) (Nat.le_of_ble_eq_true rfl)
  rw [lg_entry_eq]
  generalize (lg_sl ([.ref h, .int (nI i)]) ++ List.replicate (2 - (lg_sl ([.ref h, .int (nI i)])).length) Slot.unset).toArray = ls at hl ⊢
  have hl : lv_has ls 2 [(0, .ref h), (1, .int (nI i))] := hl
  have zi := nI_toInt (n := i) (by omega)
  refine lv_iload_n hx hb dX0_get_0 rfl (lv_at hl 1 rfl) ?_
  refine gz_callR (W.runS (As := [.int (nI i)]) (rest := []) ⟨hx, hb, hml, hown, hts⟩ (cG_isVariable l (nI i)) (va_cwS 1 hts gX0_get_X0_isVariable rfl rfl rfl (by decide +kernel) ⟨Nat.le_of_ble_eq_true rfl, Nat.le_of_ble_eq_true rfl⟩) preEq rfl rfl hl.1 rfl (lv_room (Nat.le_of_ble_eq_true rfl)) dX0_get_1 ⟨Nat.le_of_ble_eq_true rfl, Nat.le_of_ble_eq_true rfl⟩) ?_
  refine gz_ifeqB (tgt := 16) hx hb dX0_get_4 (by decide) (fun c_1 => False.elim (by omega)) (fun c_1 => ?_)
  refine lv_aload_n hx hb dX0_get_7 rfl (lv_at hl 0 rfl) ?_
  refine va_get (D := (dC, dI)) (ci := 0) (v := .ref qv) (C := RX0) (T := TX0) (N := 9) hx hb hts hin0 hown hK hP 0 rfl rfl 5 (by decide) lk25 (fun _ h9 => h9) rfl dX0_get_8 ?_
  refine lv_iload_n hx hb dX0_get_11 rfl (lv_at hl 1 rfl) ?_
  refine gz_iald (k := i) hx hb hK hP 6 0 rfl rfl (by omega) (by omega) dX0_get_12 ?_
  refine lv_goto (tgt := 17) hx hb dX0_get_13 (by decide) ?_
  exact W.iret (v := fv i) hx hb hr (fun t ht hW => ⟨rfl, ht⟩) (fun q h => absurd h List.not_mem_nil) dX0_get_17
set_option maxHeartbeats 4000000 in
set_option maxRecDepth 100000 in
theorem cG_get_bad (l : Launch) (dC : Nat → ClassId) (dI : Nat → Nat → Nat) (cA cZ : ClassId) (h qk qc qs ql qp qv : Nat) (fk fc fs fl fp fv : Nat → Int32) (rn cn : Nat) (sc : Int32) (x : Int32) (hrn : 1 ≤ rn ∧ rn ≤ 12) (hcn : 1 ≤ cn ∧ cn ≤ 12) (hx0 : ¬ (0 ≤ x.toInt ∧ x.toInt < 40)) : Met l yX0_get wsX0_get ({ frames := 1, cells := 0, slots := 0, locals := 20 }) (gPr (dC, dI) vwCl [(cA, .int), (cZ, .boolean)] [.ref h, .int x] (gw cA h qk qc qs ql qp qv fk fc fs fl fp fv (nI rn) (nI cn) sc)) (QcRead (-1)) 0 0 (fun _ => False) := by
  refine Met.ofW (cc := cX0_get) (maxL := 2) (ret := (some .int)) (by decide) rfl ?_
  intro p e s m args below meth c s₁ B hml hv
  obtain ⟨rfl, hP, hK⟩ := hv
  have hx := B.exec
  have hb := B.bytes
  have hr := B.returns
  have hts := atoms_spec (ws := wsX0_get) B.pre
  have hown : s.vm.findClass RX0 = some m.cls := findClass_of_methodNamed B.named
  have hlocks := B.notSynchronized
  have hin0 : ∀ w ∈ u_ws RX0 TX0 9, w ∈ wsX0_get := by decide +kernel
  have lk25 := hts (.fieldLink RX0 25 "LadderGrid" "values" "[I") (by decide +kernel)
  have hl := lv_entry ([.ref h, .int x]) (n := 2) (Nat.le_of_ble_eq_true rfl)
  rw [lg_entry_eq]
  generalize (lg_sl ([.ref h, .int x]) ++ List.replicate (2 - (lg_sl ([.ref h, .int x])).length) Slot.unset).toArray = ls at hl ⊢
  have hl : lv_has ls 2 [(0, .ref h), (1, .int (x))] := hl
  refine lv_iload_n hx hb dX0_get_0 rfl (lv_at hl 1 rfl) ?_
  refine gz_callR (W.runS (As := [.int (x)]) (rest := []) ⟨hx, hb, hml, hown, hts⟩ (cG_isVariable l x) (va_cwS 1 hts gX0_get_X0_isVariable rfl rfl rfl (by decide +kernel) ⟨Nat.le_of_ble_eq_true rfl, Nat.le_of_ble_eq_true rfl⟩) preEq rfl rfl hl.1 rfl (lv_room (Nat.le_of_ble_eq_true rfl)) dX0_get_1 ⟨Nat.le_of_ble_eq_true rfl, Nat.le_of_ble_eq_true rfl⟩) ?_
  refine gz_ifeqB (tgt := 16) hx hb dX0_get_4 (by decide) (fun c_1 => ?_) (fun c_1 => False.elim (hx0 c_1))
  refine lv_iconst (v := (-1)) hx hb dX0_get_16 (by decide) ?_
  exact W.iret (v := (-1)) hx hb hr (fun t ht hW => ⟨rfl, ht⟩) (fun q h => absurd h List.not_mem_nil) dX0_get_17
set_option maxHeartbeats 4000000 in
set_option maxRecDepth 100000 in
theorem cG_set (l : Launch) (dC : Nat → ClassId) (dI : Nat → Nat → Nat) (sz : Nat) (cA cZ : ClassId) (h qk qc qs ql qp qv : Nat) (fk fc fs fl fp fv : Nat → Int32) (rn cn : Nat) (sc : Int32) (i v : Nat) (hrn : 1 ≤ rn ∧ rn ≤ 12) (hcn : 1 ≤ cn ∧ cn ≤ 12) (hi : i < 40) (hv : v ≤ 1) : Met l yX0_set wsX0_set ({ frames := 1, cells := 0, slots := 0, locals := 20 }) (gPw (dC, dI) vwCl [(cA, .int), (cZ, .boolean)] [.ref h, .int (nI i), .int (nI v)] sz (gw cA h qk qc qs ql qp qv fk fc fs fl fp fv (nI rn) (nI cn) sc)) (gQA (dC, dI) vwCl [(cA, .int), (cZ, .boolean)] (fv i) (va_A (gw cA h qk qc qs ql qp qv fk fc fs fl fp fv (nI rn) (nI cn) sc) sz) (gw cA h qk qc qs ql qp qv fk fc fs fl fp (upd fv i (nI v)) (nI rn) (nI cn) sc)) 0 0 (va_A (gw cA h qk qc qs ql qp qv fk fc fs fl fp fv (nI rn) (nI cn) sc) sz) := by
  refine Met.ofW (cc := cX0_set) (maxL := 4) (ret := (some .int)) (by decide) rfl ?_
  intro p e s m args below meth c s₁ B hml hv
  obtain ⟨rfl, hsz, hP, hK, hD0⟩ := hv
  have hx := B.exec
  have hb := B.bytes
  have hr := B.returns
  have hts := atoms_spec (ws := wsX0_set) B.pre
  have hown : s.vm.findClass RX0 = some m.cls := findClass_of_methodNamed B.named
  have hlocks := B.notSynchronized
  subst hsz
  have hD := hD0.self (sz := s.heap.size)
  generalize hAe : va_A (gw cA h qk qc qs ql qp qv fk fc fs fl fp fv (nI rn) (nI cn) sc) s.heap.size = A at hD ⊢
  have hA : ∀ q : Nat, s.heap.size ≤ q → A q := fun q h => by rw [← hAe]; exact Or.inr h
  have hS : va_S A s.heap s.heap [] := va_S.rf
  have hin0 : ∀ w ∈ u_ws RX0 TX0 9, w ∈ wsX0_set := by decide +kernel
  have lk25 := hts (.fieldLink RX0 25 "LadderGrid" "values" "[I") (by decide +kernel)
  have hl := lv_entry ([.ref h, .int (nI i), .int (nI v)]) (n := 4) (Nat.le_of_ble_eq_true rfl)
  rw [lg_entry_eq]
  generalize (lg_sl ([.ref h, .int (nI i), .int (nI v)]) ++ List.replicate (4 - (lg_sl ([.ref h, .int (nI i), .int (nI v)])).length) Slot.unset).toArray = ls at hl ⊢
  have hl : lv_has ls 4 [(0, .ref h), (1, .int (nI i)), (2, .int (nI v))] := hl
  have zi := nI_toInt (n := i) (by omega)
  suffices key : ∀ (H : Heap) (locs : List Loc), va_P (dC, dI) vwCl (gw cA h qk qc qs ql qp qv fk fc fs fl fp fv (nI rn) (nI cn) sc) H → va_D A (gw cA h qk qc qs ql qp qv fk fc fs fl fp fv (nI rn) (nI cn) sc) → va_S A s.heap H locs → W p l e (headSpec wsX0_set ({ frames := 1, cells := 0, slots := 0, locals := 20 })).room s m ([.ref h, .int (nI i), .int (nI v)] : List Value).toArray below meth c H locs 0 0 (MQ below (gQA (dC, dI) vwCl [(cA, .int), (cZ, .boolean)] (fv i) A (gw cA h qk qc qs ql qp qv fk fc fs fl fp (upd fv i (nI v)) (nI rn) (nI cn) sc)) ([.ref h, .int (nI i), .int (nI v)] : List Value).toArray s 0 0 A) (F0 m 0 ls []) from key s.heap [] hP hD hS
  clear hP hD hS
  intro H locs hP hD hS
  refine lv_iload_n hx hb dX0_set_0 rfl (lv_at hl 1 rfl) ?_
  refine gz_callR (W.runS (As := [.int (nI i)]) (rest := []) ⟨hx, hb, hml, hown, hts⟩ (cG_isVariable l (nI i)) (va_cwS 1 hts gX0_set_X0_isVariable rfl rfl rfl (by decide +kernel) ⟨Nat.le_of_ble_eq_true rfl, Nat.le_of_ble_eq_true rfl⟩) preEq rfl rfl hl.1 rfl (lv_room (Nat.le_of_ble_eq_true rfl)) dX0_set_1 ⟨Nat.le_of_ble_eq_true rfl, Nat.le_of_ble_eq_true rfl⟩) ?_
  refine gz_ifeqB (tgt := 16) hx hb dX0_set_4 (by decide) (fun c_1 => False.elim (by omega)) (fun c_1 => ?_)
  refine lv_iload_n hx hb dX0_set_7 rfl (lv_at hl 2 rfl) ?_
  refine gz_if_lt (tgt := 16) (za := ((v : Nat) : Int)) hx hb dX0_set_8 (by decide) (nI_toInt (by omega)) (fun c_2 => False.elim (by omega)) (fun c_2 => ?_)
  refine lv_iload_n hx hb dX0_set_11 rfl (lv_at hl 2 rfl) ?_
  refine lv_iconst (v := nI 1) hx hb dX0_set_12 (by decide) ?_
  refine gz_icmp_le (tgt := 18) (za := ((v : Nat) : Int)) (zb := ((1 : Nat) : Int)) hx hb dX0_set_13 (by decide) (nI_toInt (by omega)) (nI_toInt (by omega)) (fun c_3 => ?_) (fun c_3 => False.elim (by omega))
  refine lv_aload_n hx hb dX0_set_18 rfl (lv_at hl 0 rfl) ?_
  refine va_get (D := (dC, dI)) (ci := 0) (v := .ref qv) (C := RX0) (T := TX0) (N := 9) hx hb hts hin0 hown hK hP 0 rfl rfl 5 (by decide) lk25 (fun _ h9 => h9) rfl dX0_set_19 ?_
  refine lv_iload_n hx hb dX0_set_22 rfl (lv_at hl 1 rfl) ?_
  refine gz_iald (k := i) hx hb hK hP 6 0 rfl rfl (by omega) (by omega) dX0_set_23 ?_
  refine lv_istore_n (lv' := [(3, .int (fv i)), (0, .ref h), (1, .int (nI i)), (2, .int (nI v))]) hx hb dX0_set_24 rfl hl (by decide) rfl (fun ls hl => ?_)
  refine lv_aload_n hx hb dX0_set_25 rfl (lv_at hl 1 rfl) ?_
  refine va_get (D := (dC, dI)) (ci := 0) (v := .ref qv) (C := RX0) (T := TX0) (N := 9) hx hb hts hin0 hown hK hP 0 rfl rfl 5 (by decide) lk25 (fun _ h9 => h9) rfl dX0_set_26 ?_
  refine lv_iload_n hx hb dX0_set_29 rfl (lv_at hl 2 rfl) ?_
  refine lv_iload_n hx hb dX0_set_30 rfl (lv_at hl 3 rfl) ?_
  refine gz_iast (k := i) hx hb hK hP hD hS 6 0 rfl rfl (by omega) (by omega) dX0_set_31 (fun H locs hP hD hS => ?_)
  have hP : va_P (dC, dI) vwCl (gw cA h qk qc qs ql qp qv fk fc fs fl fp (upd fv i (nI v)) (nI rn) (nI cn) sc) H := hP
  have hD : va_D A (gw cA h qk qc qs ql qp qv fk fc fs fl fp (upd fv i (nI v)) (nI rn) (nI cn) sc) := hD
  refine lv_iload_n hx hb dX0_set_32 rfl (lv_at hl 0 rfl) ?_
  exact W.iret (v := fv i) hx hb hr (fun t ht hW => ⟨⟨fv i, (), rfl, rfl, by rw [ht]; exact hP, va_K.moved hW.alike hK, hD⟩, hS.F ht⟩) hS.2.2 dX0_set_33
set_option maxHeartbeats 4000000 in
set_option maxRecDepth 100000 in
theorem cG_set_bad (l : Launch) (dC : Nat → ClassId) (dI : Nat → Nat → Nat) (cA cZ : ClassId) (h qk qc qs ql qp qv : Nat) (fk fc fs fl fp fv : Nat → Int32) (rn cn : Nat) (sc : Int32) (x y : Int32) (hrn : 1 ≤ rn ∧ rn ≤ 12) (hcn : 1 ≤ cn ∧ cn ≤ 12) (hx0 : ¬ (0 ≤ x.toInt ∧ x.toInt < 40 ∧ 0 ≤ y.toInt ∧ y.toInt ≤ 1)) : Met l yX0_set wsX0_set ({ frames := 1, cells := 0, slots := 0, locals := 20 }) (gPr (dC, dI) vwCl [(cA, .int), (cZ, .boolean)] [.ref h, .int x, .int y] (gw cA h qk qc qs ql qp qv fk fc fs fl fp fv (nI rn) (nI cn) sc)) (QcRead (-1)) 0 0 (fun _ => False) := by
  refine Met.ofW (cc := cX0_set) (maxL := 4) (ret := (some .int)) (by decide) rfl ?_
  intro p e s m args below meth c s₁ B hml hv
  obtain ⟨rfl, hP, hK⟩ := hv
  have hx := B.exec
  have hb := B.bytes
  have hr := B.returns
  have hts := atoms_spec (ws := wsX0_set) B.pre
  have hown : s.vm.findClass RX0 = some m.cls := findClass_of_methodNamed B.named
  have hlocks := B.notSynchronized
  have hin0 : ∀ w ∈ u_ws RX0 TX0 9, w ∈ wsX0_set := by decide +kernel
  have lk25 := hts (.fieldLink RX0 25 "LadderGrid" "values" "[I") (by decide +kernel)
  have hl := lv_entry ([.ref h, .int x, .int y]) (n := 4) (Nat.le_of_ble_eq_true rfl)
  rw [lg_entry_eq]
  generalize (lg_sl ([.ref h, .int x, .int y]) ++ List.replicate (4 - (lg_sl ([.ref h, .int x, .int y])).length) Slot.unset).toArray = ls at hl ⊢
  have hl : lv_has ls 4 [(0, .ref h), (1, .int (x)), (2, .int (y))] := hl
  refine lv_iload_n hx hb dX0_set_0 rfl (lv_at hl 1 rfl) ?_
  refine gz_callR (W.runS (As := [.int (x)]) (rest := []) ⟨hx, hb, hml, hown, hts⟩ (cG_isVariable l x) (va_cwS 1 hts gX0_set_X0_isVariable rfl rfl rfl (by decide +kernel) ⟨Nat.le_of_ble_eq_true rfl, Nat.le_of_ble_eq_true rfl⟩) preEq rfl rfl hl.1 rfl (lv_room (Nat.le_of_ble_eq_true rfl)) dX0_set_1 ⟨Nat.le_of_ble_eq_true rfl, Nat.le_of_ble_eq_true rfl⟩) ?_
  refine gz_ifeqB (tgt := 16) hx hb dX0_set_4 (by decide) (fun c_1 => ?_) (fun c_1 => ?_)
  · skip
    refine lv_iconst (v := (-1)) hx hb dX0_set_16 (by decide) ?_
    exact W.iret (v := (-1)) hx hb hr (fun t ht hW => ⟨rfl, ht⟩) (fun q h => absurd h List.not_mem_nil) dX0_set_17
  · skip
    refine lv_iload_n hx hb dX0_set_7 rfl (lv_at hl 2 rfl) ?_
    refine gz_if_lt (tgt := 16) (za := y.toInt) hx hb dX0_set_8 (by decide) rfl (fun c_2 => ?_) (fun c_2 => ?_)
    · skip
      refine lv_iconst (v := (-1)) hx hb dX0_set_16 (by decide) ?_
      exact W.iret (v := (-1)) hx hb hr (fun t ht hW => ⟨rfl, ht⟩) (fun q h => absurd h List.not_mem_nil) dX0_set_17
    · skip
      refine lv_iload_n hx hb dX0_set_11 rfl (lv_at hl 2 rfl) ?_
      refine lv_iconst (v := nI 1) hx hb dX0_set_12 (by decide) ?_
      refine gz_icmp_le (tgt := 18) (za := y.toInt) (zb := ((1 : Nat) : Int)) hx hb dX0_set_13 (by decide) rfl (nI_toInt (by omega)) (fun c_3 => False.elim (by omega)) (fun c_3 => ?_)
      refine lv_iconst (v := (-1)) hx hb dX0_set_16 (by decide) ?_
      exact W.iret (v := (-1)) hx hb hr (fun t ht hW => ⟨rfl, ht⟩) (fun q h => absurd h List.not_mem_nil) dX0_set_17
set_option maxHeartbeats 4000000 in
set_option maxRecDepth 100000 in
theorem cG_begin_bad (l : Launch) (dC : Nat → ClassId) (dI : Nat → Nat → Nat) (cA cZ : ClassId) (h qk qc qs ql qp qv : Nat) (fk fc fs fl fp fv : Nat → Int32) (rn cn : Nat) (sc : Int32) (x y : Int32) (hrn : 1 ≤ rn ∧ rn ≤ 12) (hcn : 1 ≤ cn ∧ cn ≤ 12) (hx0 : ¬ (1 ≤ x.toInt ∧ x.toInt ≤ 12 ∧ 1 ≤ y.toInt ∧ y.toInt ≤ 12)) : Met l yX0_begin wsX0_begin ({ frames := 0, cells := 0, slots := 0, locals := 0 }) (gPr (dC, dI) vwCl [(cA, .int), (cZ, .boolean)] [.ref h, .int x, .int y] (gw cA h qk qc qs ql qp qv fk fc fs fl fp fv (nI rn) (nI cn) sc)) (QcRead (-1)) 0 0 (fun _ => False) := by
  refine Met.ofW (cc := cX0_begin) (maxL := 3) (ret := (some .int)) (by decide) rfl ?_
  intro p e s m args below meth c s₁ B hml hv
  obtain ⟨rfl, hP, hK⟩ := hv
  have hx := B.exec
  have hb := B.bytes
  have hr := B.returns
  have hts := atoms_spec (ws := wsX0_begin) B.pre
  have hown : s.vm.findClass RX0 = some m.cls := findClass_of_methodNamed B.named
  have hlocks := B.notSynchronized
  have hin0 : ∀ w ∈ u_ws RX0 TX0 9, w ∈ wsX0_begin := by decide +kernel
  have lk28 := hts (.fieldLink RX0 28 "LadderGrid" "rows" "I") (by decide +kernel)
  have lk32 := hts (.fieldLink RX0 32 "LadderGrid" "columns" "I") (by decide +kernel)
  have lk9 := hts (.fieldLink RX0 9 "LadderGrid" "kinds" "[I") (by decide +kernel)
  have lk13 := hts (.fieldLink RX0 13 "LadderGrid" "cellVariables" "[I") (by decide +kernel)
  have lk16 := hts (.fieldLink RX0 16 "LadderGrid" "seen" "[I") (by decide +kernel)
  have lk19 := hts (.fieldLink RX0 19 "LadderGrid" "links" "[I") (by decide +kernel)
  have lk35 := hts (.fieldLink RX0 35 "LadderGrid" "scanned" "Z") (by decide +kernel)
  have hl := lv_entry ([.ref h, .int x, .int y]) (n := 3) (Nat.le_of_ble_eq_true rfl)
  rw [lg_entry_eq]
  generalize (lg_sl ([.ref h, .int x, .int y]) ++ List.replicate (3 - (lg_sl ([.ref h, .int x, .int y])).length) Slot.unset).toArray = ls at hl ⊢
  have hl : lv_has ls 3 [(0, .ref h), (1, .int (x)), (2, .int (y))] := hl
  refine lv_iload_n hx hb dX0_begin_0 rfl (lv_at hl 1 rfl) ?_
  refine lv_iconst (v := nI 1) hx hb dX0_begin_1 (by decide) ?_
  refine gz_icmp_lt (tgt := 22) (za := x.toInt) (zb := ((1 : Nat) : Int)) hx hb dX0_begin_2 (by decide) rfl (nI_toInt (by omega)) (fun c_1 => ?_) (fun c_1 => ?_)
  · skip
    refine lv_iconst (v := (-1)) hx hb dX0_begin_22 (by decide) ?_
    exact W.iret (v := (-1)) hx hb hr (fun t ht hW => ⟨rfl, ht⟩) (fun q h => absurd h List.not_mem_nil) dX0_begin_23
  · skip
    refine lv_iload_n hx hb dX0_begin_5 rfl (lv_at hl 1 rfl) ?_
    refine lv_bipush (v := nI 12) hx hb dX0_begin_6 (by decide) ?_
    refine gz_icmp_gt (tgt := 22) (za := x.toInt) (zb := ((12 : Nat) : Int)) hx hb dX0_begin_8 (by decide) rfl (nI_toInt (by omega)) (fun c_2 => ?_) (fun c_2 => ?_)
    · skip
      refine lv_iconst (v := (-1)) hx hb dX0_begin_22 (by decide) ?_
      exact W.iret (v := (-1)) hx hb hr (fun t ht hW => ⟨rfl, ht⟩) (fun q h => absurd h List.not_mem_nil) dX0_begin_23
    · skip
      refine lv_iload_n hx hb dX0_begin_11 rfl (lv_at hl 2 rfl) ?_
      refine lv_iconst (v := nI 1) hx hb dX0_begin_12 (by decide) ?_
      refine gz_icmp_lt (tgt := 22) (za := y.toInt) (zb := ((1 : Nat) : Int)) hx hb dX0_begin_13 (by decide) rfl (nI_toInt (by omega)) (fun c_3 => ?_) (fun c_3 => ?_)
      · skip
        refine lv_iconst (v := (-1)) hx hb dX0_begin_22 (by decide) ?_
        exact W.iret (v := (-1)) hx hb hr (fun t ht hW => ⟨rfl, ht⟩) (fun q h => absurd h List.not_mem_nil) dX0_begin_23
      · skip
        refine lv_iload_n hx hb dX0_begin_16 rfl (lv_at hl 2 rfl) ?_
        refine lv_bipush (v := nI 12) hx hb dX0_begin_17 (by decide) ?_
        refine gz_icmp_le (tgt := 24) (za := y.toInt) (zb := ((12 : Nat) : Int)) hx hb dX0_begin_19 (by decide) rfl (nI_toInt (by omega)) (fun c_4 => False.elim (by omega)) (fun c_4 => ?_)
        refine lv_iconst (v := (-1)) hx hb dX0_begin_22 (by decide) ?_
        exact W.iret (v := (-1)) hx hb hr (fun t ht hW => ⟨rfl, ht⟩) (fun q h => absurd h List.not_mem_nil) dX0_begin_23
set_option maxHeartbeats 4000000 in
set_option maxRecDepth 100000 in
theorem cG_link (l : Launch) (dC : Nat → ClassId) (dI : Nat → Nat → Nat) (sz : Nat) (cA cZ : ClassId) (h qk qc qs ql qp qv : Nat) (fk fc fs fl fp fv : Nat → Int32) (rn cn : Nat) (sc : Int32) (i j : Nat) (b : Int32) (hrn : 1 ≤ rn ∧ rn ≤ 12) (hcn : 1 ≤ cn ∧ cn ≤ 12) (hi : i + 1 < rn) (hj : 1 ≤ j ∧ j < cn) (hb01 : b = nI 0 ∨ b = nI 1) : Met l yX0_link wsX0_link ({ frames := 1, cells := 0, slots := 0, locals := 21 }) (gPw (dC, dI) vwCl [(cA, .int), (cZ, .boolean)] [.ref h, .int (nI i), .int (nI j), .int b] sz (gw cA h qk qc qs ql qp qv fk fc fs fl fp fv (nI rn) (nI cn) sc)) (gQA (dC, dI) vwCl [(cA, .int), (cZ, .boolean)] (fl (i * 13 + j)) (va_A (gw cA h qk qc qs ql qp qv fk fc fs fl fp fv (nI rn) (nI cn) sc) sz) (gw cA h qk qc qs ql qp qv fk fc fs (upd fl (i * 13 + j) b) fp fv (nI rn) (nI cn) (nI 0))) 0 0 (va_A (gw cA h qk qc qs ql qp qv fk fc fs fl fp fv (nI rn) (nI cn) sc) sz) := by
  refine Met.ofW (cc := cX0_link) (maxL := 6) (ret := (some .int)) (by decide) rfl ?_
  intro p e s m args below meth c s₁ B hml hv
  obtain ⟨rfl, hsz, hP, hK, hD0⟩ := hv
  have hx := B.exec
  have hb := B.bytes
  have hr := B.returns
  have hts := atoms_spec (ws := wsX0_link) B.pre
  have hown : s.vm.findClass RX0 = some m.cls := findClass_of_methodNamed B.named
  have hlocks := B.notSynchronized
  subst hsz
  have hD := hD0.self (sz := s.heap.size)
  generalize hAe : va_A (gw cA h qk qc qs ql qp qv fk fc fs fl fp fv (nI rn) (nI cn) sc) s.heap.size = A at hD ⊢
  have hA : ∀ q : Nat, s.heap.size ≤ q → A q := fun q h => by rw [← hAe]; exact Or.inr h
  have hS : va_S A s.heap s.heap [] := va_S.rf
  have hin0 : ∀ w ∈ u_ws RX0 TX0 9, w ∈ wsX0_link := by decide +kernel
  have lk28 := hts (.fieldLink RX0 28 "LadderGrid" "rows" "I") (by decide +kernel)
  have lk32 := hts (.fieldLink RX0 32 "LadderGrid" "columns" "I") (by decide +kernel)
  have lk19 := hts (.fieldLink RX0 19 "LadderGrid" "links" "[I") (by decide +kernel)
  have lk35 := hts (.fieldLink RX0 35 "LadderGrid" "scanned" "Z") (by decide +kernel)
  have hl := lv_entry ([.ref h, .int (nI i), .int (nI j), .int b]) (n := 6) (Nat.le_of_ble_eq_true rfl)
  rw [lg_entry_eq]
  generalize (lg_sl ([.ref h, .int (nI i), .int (nI j), .int b]) ++ List.replicate (6 - (lg_sl ([.ref h, .int (nI i), .int (nI j), .int b])).length) Slot.unset).toArray = ls at hl ⊢
  have hl : lv_has ls 6 [(0, .ref h), (1, .int (nI i)), (2, .int (nI j)), (3, .int (b))] := hl
  suffices key : ∀ (H : Heap) (locs : List Loc), va_P (dC, dI) vwCl (gw cA h qk qc qs ql qp qv fk fc fs fl fp fv (nI rn) (nI cn) sc) H → va_D A (gw cA h qk qc qs ql qp qv fk fc fs fl fp fv (nI rn) (nI cn) sc) → va_S A s.heap H locs → W p l e (headSpec wsX0_link ({ frames := 1, cells := 0, slots := 0, locals := 21 })).room s m ([.ref h, .int (nI i), .int (nI j), .int b] : List Value).toArray below meth c H locs 0 0 (MQ below (gQA (dC, dI) vwCl [(cA, .int), (cZ, .boolean)] (fl (i * 13 + j)) A (gw cA h qk qc qs ql qp qv fk fc fs (upd fl (i * 13 + j) b) fp fv (nI rn) (nI cn) (nI 0))) ([.ref h, .int (nI i), .int (nI j), .int b] : List Value).toArray s 0 0 A) (F0 m 0 ls []) from key s.heap [] hP hD hS
  clear hP hD hS
  intro H locs hP hD hS
  rcases hb01 with hb0 | hb0
  · subst hb0
    refine lv_iload_n hx hb dX0_link_0 rfl (lv_at hl 1 rfl) ?_
    refine gz_if_lt (tgt := 27) (za := ((i : Nat) : Int)) hx hb dX0_link_1 (by decide) (nI_toInt (by omega)) (fun c_1 => False.elim (by omega)) (fun c_1 => ?_)
    refine lv_iload_n hx hb dX0_link_4 rfl (lv_at hl 1 rfl) ?_
    refine lv_aload_n hx hb dX0_link_5 rfl (lv_at hl 0 rfl) ?_
    refine va_get (D := (dC, dI)) (ci := 0) (v := .int (nI rn)) (C := RX0) (T := TX0) (N := 9) hx hb hts hin0 hown hK hP 0 rfl rfl 6 (by decide) lk28 (fun _ h9 => h9) rfl dX0_link_6 ?_
    refine lv_iconst (v := nI 1) hx hb dX0_link_9 (by decide) ?_
    refine gz_isub (i := rn) (j := 1) hx hb dX0_link_10 (by omega) ?_
    refine gz_icmp_ge (tgt := 27) (za := ((i : Nat) : Int)) (zb := ((rn - 1 : Nat) : Int)) hx hb dX0_link_11 (by decide) (nI_toInt (by omega)) (nI_toInt (by omega)) (fun c_2 => False.elim (by omega)) (fun c_2 => ?_)
    refine lv_iload_n hx hb dX0_link_14 rfl (lv_at hl 2 rfl) ?_
    refine lv_iconst (v := nI 1) hx hb dX0_link_15 (by decide) ?_
    refine gz_icmp_lt (tgt := 27) (za := ((j : Nat) : Int)) (zb := ((1 : Nat) : Int)) hx hb dX0_link_16 (by decide) (nI_toInt (by omega)) (nI_toInt (by omega)) (fun c_3 => False.elim (by omega)) (fun c_3 => ?_)
    refine lv_iload_n hx hb dX0_link_19 rfl (lv_at hl 2 rfl) ?_
    refine lv_aload_n hx hb dX0_link_20 rfl (lv_at hl 0 rfl) ?_
    refine va_get (D := (dC, dI)) (ci := 0) (v := .int (nI cn)) (C := RX0) (T := TX0) (N := 9) hx hb hts hin0 hown hK hP 0 rfl rfl 7 (by decide) lk32 (fun _ h9 => h9) rfl dX0_link_21 ?_
    refine gz_icmp_lt (tgt := 29) (za := ((j : Nat) : Int)) (zb := ((cn : Nat) : Int)) hx hb dX0_link_24 (by decide) (nI_toInt (by omega)) (nI_toInt (by omega)) (fun c_4 => ?_) (fun c_4 => False.elim (by omega))
    refine lv_iload_n hx hb dX0_link_29 rfl (lv_at hl 1 rfl) ?_
    refine lv_iload_n hx hb dX0_link_30 rfl (lv_at hl 2 rfl) ?_
    refine gz_callR (W.runS (As := [.int (nI i), .int (nI j)]) (rest := []) ⟨hx, hb, hml, hown, hts⟩ (cG_pointAt l i j) (va_cwS 2 hts gX0_link_X0_pointAt rfl rfl rfl (by decide +kernel) ⟨Nat.le_of_ble_eq_true rfl, Nat.le_of_ble_eq_true rfl⟩) preEq rfl rfl hl.1 rfl (lv_room (Nat.le_of_ble_eq_true rfl)) dX0_link_31 ⟨Nat.le_of_ble_eq_true rfl, Nat.le_of_ble_eq_true rfl⟩) ?_
    refine lv_istore (lv' := [(4, .int (nI (i * 13 + j))), (0, .ref h), (1, .int (nI i)), (2, .int (nI j)), (3, .int (nI 0))]) hx hb dX0_link_34 hl (by decide) rfl (fun ls hl => ?_)
    refine lv_aload_n hx hb dX0_link_36 rfl (lv_at hl 1 rfl) ?_
    refine va_get (D := (dC, dI)) (ci := 0) (v := .ref ql) (C := RX0) (T := TX0) (N := 9) hx hb hts hin0 hown hK hP 0 rfl rfl 3 (by decide) lk19 (fun _ h9 => h9) rfl dX0_link_37 ?_
    refine lv_iload hx hb dX0_link_40 (lv_at hl 0 rfl) ?_
    refine gz_iald (k := i * 13 + j) hx hb hK hP 4 0 rfl rfl (by omega) (by omega) dX0_link_42 ?_
    refine lv_istore (lv' := [(5, .int (fl (i * 13 + j))), (4, .int (nI (i * 13 + j))), (0, .ref h), (1, .int (nI i)), (2, .int (nI j)), (3, .int (nI 0))]) hx hb dX0_link_43 hl (by decide) rfl (fun ls hl => ?_)
    refine lv_aload_n hx hb dX0_link_45 rfl (lv_at hl 2 rfl) ?_
    refine va_get (D := (dC, dI)) (ci := 0) (v := .ref ql) (C := RX0) (T := TX0) (N := 9) hx hb hts hin0 hown hK hP 0 rfl rfl 3 (by decide) lk19 (fun _ h9 => h9) rfl dX0_link_46 ?_
    refine lv_iload hx hb dX0_link_49 (lv_at hl 1 rfl) ?_
    refine lv_iload_n hx hb dX0_link_51 rfl (lv_at hl 5 rfl) ?_
    refine lv_if_eq (tgt := 59) hx hb dX0_link_52 (by decide) (fun c_5 => ?_) (fun c_5 => False.elim (c_5 rfl))
    refine lv_iconst (v := nI 0) hx hb dX0_link_59 (by decide) ?_
    refine gz_iast (k := i * 13 + j) hx hb hK hP hD hS 4 0 rfl rfl (by omega) (by omega) dX0_link_60 (fun H locs hP hD hS => ?_)
    have hP : va_P (dC, dI) vwCl (gw cA h qk qc qs ql qp qv fk fc fs (upd fl (i * 13 + j) (nI 0)) fp fv (nI rn) (nI cn) sc) H := hP
    have hD : va_D A (gw cA h qk qc qs ql qp qv fk fc fs (upd fl (i * 13 + j) (nI 0)) fp fv (nI rn) (nI cn) sc) := hD
    refine lv_aload_n hx hb dX0_link_61 rfl (lv_at hl 2 rfl) ?_
    refine lv_iconst (v := nI 0) hx hb dX0_link_62 (by decide) ?_
    refine va_put (D := (dC, dI)) (ci := 0) (v := .int (nI 0)) (ty := .boolean) (C := RX0) (T := TX0) (N := 9) hx hb hts hin0 tyX0 tyX0_ok nmX0 hown hK hP hD hS 0 rfl rfl 8 (by decide) lk35 (fun _ h9 => h9) rfl (by decide +kernel) rfl rfl (Nat.le_of_ble_eq_true rfl) dX0_link_63 (fun H locs hP hD hS => ?_)
    have hP : va_P (dC, dI) vwCl (gw cA h qk qc qs ql qp qv fk fc fs (upd fl (i * 13 + j) (nI 0)) fp fv (nI rn) (nI cn) (nI 0)) H := hP
    have hD : va_D A (gw cA h qk qc qs ql qp qv fk fc fs (upd fl (i * 13 + j) (nI 0)) fp fv (nI rn) (nI cn) (nI 0)) := hD
    refine lv_iload hx hb dX0_link_66 (lv_at hl 0 rfl) ?_
    exact W.iret (v := fl (i * 13 + j)) hx hb hr (fun t ht hW => ⟨⟨fl (i * 13 + j), (), rfl, rfl, by rw [ht]; exact hP, va_K.moved hW.alike hK, hD⟩, hS.F ht⟩) hS.2.2 dX0_link_68
  · subst hb0
    refine lv_iload_n hx hb dX0_link_0 rfl (lv_at hl 1 rfl) ?_
    refine gz_if_lt (tgt := 27) (za := ((i : Nat) : Int)) hx hb dX0_link_1 (by decide) (nI_toInt (by omega)) (fun c_1 => False.elim (by omega)) (fun c_1 => ?_)
    refine lv_iload_n hx hb dX0_link_4 rfl (lv_at hl 1 rfl) ?_
    refine lv_aload_n hx hb dX0_link_5 rfl (lv_at hl 0 rfl) ?_
    refine va_get (D := (dC, dI)) (ci := 0) (v := .int (nI rn)) (C := RX0) (T := TX0) (N := 9) hx hb hts hin0 hown hK hP 0 rfl rfl 6 (by decide) lk28 (fun _ h9 => h9) rfl dX0_link_6 ?_
    refine lv_iconst (v := nI 1) hx hb dX0_link_9 (by decide) ?_
    refine gz_isub (i := rn) (j := 1) hx hb dX0_link_10 (by omega) ?_
    refine gz_icmp_ge (tgt := 27) (za := ((i : Nat) : Int)) (zb := ((rn - 1 : Nat) : Int)) hx hb dX0_link_11 (by decide) (nI_toInt (by omega)) (nI_toInt (by omega)) (fun c_2 => False.elim (by omega)) (fun c_2 => ?_)
    refine lv_iload_n hx hb dX0_link_14 rfl (lv_at hl 2 rfl) ?_
    refine lv_iconst (v := nI 1) hx hb dX0_link_15 (by decide) ?_
    refine gz_icmp_lt (tgt := 27) (za := ((j : Nat) : Int)) (zb := ((1 : Nat) : Int)) hx hb dX0_link_16 (by decide) (nI_toInt (by omega)) (nI_toInt (by omega)) (fun c_3 => False.elim (by omega)) (fun c_3 => ?_)
    refine lv_iload_n hx hb dX0_link_19 rfl (lv_at hl 2 rfl) ?_
    refine lv_aload_n hx hb dX0_link_20 rfl (lv_at hl 0 rfl) ?_
    refine va_get (D := (dC, dI)) (ci := 0) (v := .int (nI cn)) (C := RX0) (T := TX0) (N := 9) hx hb hts hin0 hown hK hP 0 rfl rfl 7 (by decide) lk32 (fun _ h9 => h9) rfl dX0_link_21 ?_
    refine gz_icmp_lt (tgt := 29) (za := ((j : Nat) : Int)) (zb := ((cn : Nat) : Int)) hx hb dX0_link_24 (by decide) (nI_toInt (by omega)) (nI_toInt (by omega)) (fun c_4 => ?_) (fun c_4 => False.elim (by omega))
    refine lv_iload_n hx hb dX0_link_29 rfl (lv_at hl 1 rfl) ?_
    refine lv_iload_n hx hb dX0_link_30 rfl (lv_at hl 2 rfl) ?_
    refine gz_callR (W.runS (As := [.int (nI i), .int (nI j)]) (rest := []) ⟨hx, hb, hml, hown, hts⟩ (cG_pointAt l i j) (va_cwS 2 hts gX0_link_X0_pointAt rfl rfl rfl (by decide +kernel) ⟨Nat.le_of_ble_eq_true rfl, Nat.le_of_ble_eq_true rfl⟩) preEq rfl rfl hl.1 rfl (lv_room (Nat.le_of_ble_eq_true rfl)) dX0_link_31 ⟨Nat.le_of_ble_eq_true rfl, Nat.le_of_ble_eq_true rfl⟩) ?_
    refine lv_istore (lv' := [(4, .int (nI (i * 13 + j))), (0, .ref h), (1, .int (nI i)), (2, .int (nI j)), (3, .int (nI 1))]) hx hb dX0_link_34 hl (by decide) rfl (fun ls hl => ?_)
    refine lv_aload_n hx hb dX0_link_36 rfl (lv_at hl 1 rfl) ?_
    refine va_get (D := (dC, dI)) (ci := 0) (v := .ref ql) (C := RX0) (T := TX0) (N := 9) hx hb hts hin0 hown hK hP 0 rfl rfl 3 (by decide) lk19 (fun _ h9 => h9) rfl dX0_link_37 ?_
    refine lv_iload hx hb dX0_link_40 (lv_at hl 0 rfl) ?_
    refine gz_iald (k := i * 13 + j) hx hb hK hP 4 0 rfl rfl (by omega) (by omega) dX0_link_42 ?_
    refine lv_istore (lv' := [(5, .int (fl (i * 13 + j))), (4, .int (nI (i * 13 + j))), (0, .ref h), (1, .int (nI i)), (2, .int (nI j)), (3, .int (nI 1))]) hx hb dX0_link_43 hl (by decide) rfl (fun ls hl => ?_)
    refine lv_aload_n hx hb dX0_link_45 rfl (lv_at hl 2 rfl) ?_
    refine va_get (D := (dC, dI)) (ci := 0) (v := .ref ql) (C := RX0) (T := TX0) (N := 9) hx hb hts hin0 hown hK hP 0 rfl rfl 3 (by decide) lk19 (fun _ h9 => h9) rfl dX0_link_46 ?_
    refine lv_iload hx hb dX0_link_49 (lv_at hl 1 rfl) ?_
    refine lv_iload_n hx hb dX0_link_51 rfl (lv_at hl 5 rfl) ?_
    refine lv_if_eq (tgt := 59) hx hb dX0_link_52 (by decide) (fun c_5 => False.elim (absurd c_5 (by decide))) (fun c_5 => ?_)
    refine lv_iconst (v := nI 1) hx hb dX0_link_55 (by decide) ?_
    refine lv_goto (tgt := 60) hx hb dX0_link_56 (by decide) ?_
    refine gz_iast (k := i * 13 + j) hx hb hK hP hD hS 4 0 rfl rfl (by omega) (by omega) dX0_link_60 (fun H locs hP hD hS => ?_)
    have hP : va_P (dC, dI) vwCl (gw cA h qk qc qs ql qp qv fk fc fs (upd fl (i * 13 + j) (nI 1)) fp fv (nI rn) (nI cn) sc) H := hP
    have hD : va_D A (gw cA h qk qc qs ql qp qv fk fc fs (upd fl (i * 13 + j) (nI 1)) fp fv (nI rn) (nI cn) sc) := hD
    refine lv_aload_n hx hb dX0_link_61 rfl (lv_at hl 2 rfl) ?_
    refine lv_iconst (v := nI 0) hx hb dX0_link_62 (by decide) ?_
    refine va_put (D := (dC, dI)) (ci := 0) (v := .int (nI 0)) (ty := .boolean) (C := RX0) (T := TX0) (N := 9) hx hb hts hin0 tyX0 tyX0_ok nmX0 hown hK hP hD hS 0 rfl rfl 8 (by decide) lk35 (fun _ h9 => h9) rfl (by decide +kernel) rfl rfl (Nat.le_of_ble_eq_true rfl) dX0_link_63 (fun H locs hP hD hS => ?_)
    have hP : va_P (dC, dI) vwCl (gw cA h qk qc qs ql qp qv fk fc fs (upd fl (i * 13 + j) (nI 1)) fp fv (nI rn) (nI cn) (nI 0)) H := hP
    have hD : va_D A (gw cA h qk qc qs ql qp qv fk fc fs (upd fl (i * 13 + j) (nI 1)) fp fv (nI rn) (nI cn) (nI 0)) := hD
    refine lv_iload hx hb dX0_link_66 (lv_at hl 0 rfl) ?_
    exact W.iret (v := fl (i * 13 + j)) hx hb hr (fun t ht hW => ⟨⟨fl (i * 13 + j), (), rfl, rfl, by rw [ht]; exact hP, va_K.moved hW.alike hK, hD⟩, hS.F ht⟩) hS.2.2 dX0_link_68
set_option maxHeartbeats 4000000 in
set_option maxRecDepth 100000 in
theorem cG_link_bad (l : Launch) (dC : Nat → ClassId) (dI : Nat → Nat → Nat) (cA cZ : ClassId) (h qk qc qs ql qp qv : Nat) (fk fc fs fl fp fv : Nat → Int32) (rn cn : Nat) (sc : Int32) (x y b : Int32) (hrn : 1 ≤ rn ∧ rn ≤ 12) (hcn : 1 ≤ cn ∧ cn ≤ 12) (hx0 : ¬ (0 ≤ x.toInt ∧ x.toInt + 1 < (rn : Int) ∧ 1 ≤ y.toInt ∧ y.toInt < (cn : Int))) : Met l yX0_link wsX0_link ({ frames := 0, cells := 0, slots := 0, locals := 0 }) (gPr (dC, dI) vwCl [(cA, .int), (cZ, .boolean)] [.ref h, .int x, .int y, .int b] (gw cA h qk qc qs ql qp qv fk fc fs fl fp fv (nI rn) (nI cn) sc)) (QcRead (-1)) 0 0 (fun _ => False) := by
  refine Met.ofW (cc := cX0_link) (maxL := 6) (ret := (some .int)) (by decide) rfl ?_
  intro p e s m args below meth c s₁ B hml hv
  obtain ⟨rfl, hP, hK⟩ := hv
  have hx := B.exec
  have hb := B.bytes
  have hr := B.returns
  have hts := atoms_spec (ws := wsX0_link) B.pre
  have hown : s.vm.findClass RX0 = some m.cls := findClass_of_methodNamed B.named
  have hlocks := B.notSynchronized
  have hin0 : ∀ w ∈ u_ws RX0 TX0 9, w ∈ wsX0_link := by decide +kernel
  have lk28 := hts (.fieldLink RX0 28 "LadderGrid" "rows" "I") (by decide +kernel)
  have lk32 := hts (.fieldLink RX0 32 "LadderGrid" "columns" "I") (by decide +kernel)
  have lk19 := hts (.fieldLink RX0 19 "LadderGrid" "links" "[I") (by decide +kernel)
  have lk35 := hts (.fieldLink RX0 35 "LadderGrid" "scanned" "Z") (by decide +kernel)
  have hl := lv_entry ([.ref h, .int x, .int y, .int b]) (n := 6) (Nat.le_of_ble_eq_true rfl)
  rw [lg_entry_eq]
  generalize (lg_sl ([.ref h, .int x, .int y, .int b]) ++ List.replicate (6 - (lg_sl ([.ref h, .int x, .int y, .int b])).length) Slot.unset).toArray = ls at hl ⊢
  have hl : lv_has ls 6 [(0, .ref h), (1, .int (x)), (2, .int (y)), (3, .int (b))] := hl
  refine lv_iload_n hx hb dX0_link_0 rfl (lv_at hl 1 rfl) ?_
  refine gz_if_lt (tgt := 27) (za := x.toInt) hx hb dX0_link_1 (by decide) rfl (fun c_1 => ?_) (fun c_1 => ?_)
  · skip
    refine lv_iconst (v := (-1)) hx hb dX0_link_27 (by decide) ?_
    exact W.iret (v := (-1)) hx hb hr (fun t ht hW => ⟨rfl, ht⟩) (fun q h => absurd h List.not_mem_nil) dX0_link_28
  · skip
    refine lv_iload_n hx hb dX0_link_4 rfl (lv_at hl 1 rfl) ?_
    refine lv_aload_n hx hb dX0_link_5 rfl (lv_at hl 0 rfl) ?_
    refine va_get (D := (dC, dI)) (ci := 0) (v := .int (nI rn)) (C := RX0) (T := TX0) (N := 9) hx hb hts hin0 hown hK hP 0 rfl rfl 6 (by decide) lk28 (fun _ h9 => h9) rfl dX0_link_6 ?_
    refine lv_iconst (v := nI 1) hx hb dX0_link_9 (by decide) ?_
    refine gz_isub (i := rn) (j := 1) hx hb dX0_link_10 (by omega) ?_
    refine gz_icmp_ge (tgt := 27) (za := x.toInt) (zb := ((rn - 1 : Nat) : Int)) hx hb dX0_link_11 (by decide) rfl (nI_toInt (by omega)) (fun c_2 => ?_) (fun c_2 => ?_)
    · skip
      refine lv_iconst (v := (-1)) hx hb dX0_link_27 (by decide) ?_
      exact W.iret (v := (-1)) hx hb hr (fun t ht hW => ⟨rfl, ht⟩) (fun q h => absurd h List.not_mem_nil) dX0_link_28
    · skip
      refine lv_iload_n hx hb dX0_link_14 rfl (lv_at hl 2 rfl) ?_
      refine lv_iconst (v := nI 1) hx hb dX0_link_15 (by decide) ?_
      refine gz_icmp_lt (tgt := 27) (za := y.toInt) (zb := ((1 : Nat) : Int)) hx hb dX0_link_16 (by decide) rfl (nI_toInt (by omega)) (fun c_3 => ?_) (fun c_3 => ?_)
      · skip
        refine lv_iconst (v := (-1)) hx hb dX0_link_27 (by decide) ?_
        exact W.iret (v := (-1)) hx hb hr (fun t ht hW => ⟨rfl, ht⟩) (fun q h => absurd h List.not_mem_nil) dX0_link_28
      · skip
        refine lv_iload_n hx hb dX0_link_19 rfl (lv_at hl 2 rfl) ?_
        refine lv_aload_n hx hb dX0_link_20 rfl (lv_at hl 0 rfl) ?_
        refine va_get (D := (dC, dI)) (ci := 0) (v := .int (nI cn)) (C := RX0) (T := TX0) (N := 9) hx hb hts hin0 hown hK hP 0 rfl rfl 7 (by decide) lk32 (fun _ h9 => h9) rfl dX0_link_21 ?_
        refine gz_icmp_lt (tgt := 29) (za := y.toInt) (zb := ((cn : Nat) : Int)) hx hb dX0_link_24 (by decide) rfl (nI_toInt (by omega)) (fun c_4 => False.elim (by omega)) (fun c_4 => ?_)
        refine lv_iconst (v := (-1)) hx hb dX0_link_27 (by decide) ?_
        exact W.iret (v := (-1)) hx hb hr (fun t ht hW => ⟨rfl, ht⟩) (fun q h => absurd h List.not_mem_nil) dX0_link_28
set_option maxHeartbeats 4000000 in
set_option maxRecDepth 100000 in
theorem cG_cell (l : Launch) (dC : Nat → ClassId) (dI : Nat → Nat → Nat) (sz : Nat) (cA cZ : ClassId) (h qk qc qs ql qp qv : Nat) (fk fc fs fl fp fv : Nat → Int32) (rn cn : Nat) (sc : Int32) (i j k : Nat) (x : Int32) (hrn : 1 ≤ rn ∧ rn ≤ 12) (hcn : 1 ≤ cn ∧ cn ≤ 12) (hi : i < rn) (hj : j < cn) (hk : k ≤ 9) (hx2 : k < 2 ∨ (0 ≤ x.toInt ∧ x.toInt < 40)) (hk6 : k < 6 ∨ j + 1 = cn) : Met l yX0_cell wsX0_cell ({ frames := 1, cells := 0, slots := 0, locals := 21 }) (gPw (dC, dI) vwCl [(cA, .int), (cZ, .boolean)] [.ref h, .int (nI i), .int (nI j), .int (nI k), .int x] sz (gw cA h qk qc qs ql qp qv fk fc fs fl fp fv (nI rn) (nI cn) sc)) (gQA (dC, dI) vwCl [(cA, .int), (cZ, .boolean)] (fk (i * 12 + j)) (va_A (gw cA h qk qc qs ql qp qv fk fc fs fl fp fv (nI rn) (nI cn) sc) sz) (gw cA h qk qc qs ql qp qv (upd fk (i * 12 + j) (nI k)) (upd fc (i * 12 + j) (if 2 ≤ k then x else nI 0)) (upd fs (i * 12 + j) (nI 0)) fl fp fv (nI rn) (nI cn) (nI 0))) 0 0 (va_A (gw cA h qk qc qs ql qp qv fk fc fs fl fp fv (nI rn) (nI cn) sc) sz) := by
  refine Met.ofW (cc := cX0_cell) (maxL := 7) (ret := (some .int)) (by decide) rfl ?_
  intro p e s m args below meth c s₁ B hml hv
  obtain ⟨rfl, hsz, hP, hK, hD0⟩ := hv
  have hx := B.exec
  have hb := B.bytes
  have hr := B.returns
  have hts := atoms_spec (ws := wsX0_cell) B.pre
  have hown : s.vm.findClass RX0 = some m.cls := findClass_of_methodNamed B.named
  have hlocks := B.notSynchronized
  subst hsz
  have hD := hD0.self (sz := s.heap.size)
  generalize hAe : va_A (gw cA h qk qc qs ql qp qv fk fc fs fl fp fv (nI rn) (nI cn) sc) s.heap.size = A at hD ⊢
  have hA : ∀ q : Nat, s.heap.size ≤ q → A q := fun q h => by rw [← hAe]; exact Or.inr h
  have hS : va_S A s.heap s.heap [] := va_S.rf
  have hin0 : ∀ w ∈ u_ws RX0 TX0 9, w ∈ wsX0_cell := by decide +kernel
  have lk32 := hts (.fieldLink RX0 32 "LadderGrid" "columns" "I") (by decide +kernel)
  have lk9 := hts (.fieldLink RX0 9 "LadderGrid" "kinds" "[I") (by decide +kernel)
  have lk13 := hts (.fieldLink RX0 13 "LadderGrid" "cellVariables" "[I") (by decide +kernel)
  have lk16 := hts (.fieldLink RX0 16 "LadderGrid" "seen" "[I") (by decide +kernel)
  have lk35 := hts (.fieldLink RX0 35 "LadderGrid" "scanned" "Z") (by decide +kernel)
  have hl := lv_entry ([.ref h, .int (nI i), .int (nI j), .int (nI k), .int x]) (n := 7) (Nat.le_of_ble_eq_true rfl)
  rw [lg_entry_eq]
  generalize (lg_sl ([.ref h, .int (nI i), .int (nI j), .int (nI k), .int x]) ++ List.replicate (7 - (lg_sl ([.ref h, .int (nI i), .int (nI j), .int (nI k), .int x])).length) Slot.unset).toArray = ls at hl ⊢
  have hl : lv_has ls 7 [(0, .ref h), (1, .int (nI i)), (2, .int (nI j)), (3, .int (nI k)), (4, .int (x))] := hl
  have zi := nI_toInt (n := i) (by omega)
  have zj := nI_toInt (n := j) (by omega)
  have zk := nI_toInt (n := k) (by omega)
  suffices key : ∀ (H : Heap) (locs : List Loc), va_P (dC, dI) vwCl (gw cA h qk qc qs ql qp qv fk fc fs fl fp fv (nI rn) (nI cn) sc) H → va_D A (gw cA h qk qc qs ql qp qv fk fc fs fl fp fv (nI rn) (nI cn) sc) → va_S A s.heap H locs → W p l e (headSpec wsX0_cell ({ frames := 1, cells := 0, slots := 0, locals := 21 })).room s m ([.ref h, .int (nI i), .int (nI j), .int (nI k), .int x] : List Value).toArray below meth c H locs 0 0 (MQ below (gQA (dC, dI) vwCl [(cA, .int), (cZ, .boolean)] (fk (i * 12 + j)) A (gw cA h qk qc qs ql qp qv (upd fk (i * 12 + j) (nI k)) (upd fc (i * 12 + j) (if 2 ≤ k then x else nI 0)) (upd fs (i * 12 + j) (nI 0)) fl fp fv (nI rn) (nI cn) (nI 0))) ([.ref h, .int (nI i), .int (nI j), .int (nI k), .int x] : List Value).toArray s 0 0 A) (F0 m 0 ls []) from key s.heap [] hP hD hS
  clear hP hD hS
  intro H locs hP hD hS
  by_cases hk2 : 2 ≤ k
  · by_cases hk5 : 6 ≤ k
    · skip
      refine lv_aload_n hx hb dX0_cell_0 rfl (lv_at hl 0 rfl) ?_
      refine lv_iload_n hx hb dX0_cell_1 rfl (lv_at hl 1 rfl) ?_
      refine gz_callR (W.runV (As := [.int (nI i)]) (rest := []) ⟨hx, hb, hml, hown, hts⟩ (cG_isRow l dC dI cA cZ h qk qc qs ql qp qv fk fc fs fl fp fv rn cn sc (nI i) hrn.2 hcn.2) (cwV 1 hts gX0_cell_X0_isRow rfl rfl rfl (by decide +kernel) ⟨Nat.le_of_ble_eq_true rfl, Nat.le_of_ble_eq_true rfl⟩) (gz_preV (q := (RX0, TX0, 9)) (ci := 0) hK hP [0, 1, 2, 3, 4, 5, 6] rfl rfl rfl) rfl rfl hl.1 rfl (lv_room (Nat.le_of_ble_eq_true rfl)) dX0_cell_2 ⟨Nat.le_of_ble_eq_true rfl, Nat.le_of_ble_eq_true rfl⟩) ?_
      refine gz_ifeqB (tgt := 30) hx hb dX0_cell_5 (by decide) (fun c_1 => False.elim (by omega)) (fun c_1 => ?_)
      refine lv_iload_n hx hb dX0_cell_8 rfl (lv_at hl 2 rfl) ?_
      refine gz_if_lt (tgt := 30) (za := ((j : Nat) : Int)) hx hb dX0_cell_9 (by decide) (nI_toInt (by omega)) (fun c_2 => False.elim (by omega)) (fun c_2 => ?_)
      refine lv_iload_n hx hb dX0_cell_12 rfl (lv_at hl 2 rfl) ?_
      refine lv_aload_n hx hb dX0_cell_13 rfl (lv_at hl 0 rfl) ?_
      refine va_get (D := (dC, dI)) (ci := 0) (v := .int (nI cn)) (C := RX0) (T := TX0) (N := 9) hx hb hts hin0 hown hK hP 0 rfl rfl 7 (by decide) lk32 (fun _ h9 => h9) rfl dX0_cell_14 ?_
      refine gz_icmp_ge (tgt := 30) (za := ((j : Nat) : Int)) (zb := ((cn : Nat) : Int)) hx hb dX0_cell_17 (by decide) (nI_toInt (by omega)) (nI_toInt (by omega)) (fun c_3 => False.elim (by omega)) (fun c_3 => ?_)
      refine lv_iload_n hx hb dX0_cell_20 rfl (lv_at hl 3 rfl) ?_
      refine gz_if_lt (tgt := 30) (za := ((k : Nat) : Int)) hx hb dX0_cell_21 (by decide) (nI_toInt (by omega)) (fun c_4 => False.elim (by omega)) (fun c_4 => ?_)
      refine lv_iload_n hx hb dX0_cell_24 rfl (lv_at hl 3 rfl) ?_
      refine lv_bipush (v := nI 9) hx hb dX0_cell_25 (by decide) ?_
      refine gz_icmp_le (tgt := 32) (za := ((k : Nat) : Int)) (zb := ((9 : Nat) : Int)) hx hb dX0_cell_27 (by decide) (nI_toInt (by omega)) (nI_toInt (by omega)) (fun c_5 => ?_) (fun c_5 => False.elim (by omega))
      refine lv_iload_n hx hb dX0_cell_32 rfl (lv_at hl 3 rfl) ?_
      refine gz_callR (W.runS (As := [.int (nI k)]) (rest := []) ⟨hx, hb, hml, hown, hts⟩ (cG_hasVariable l (nI k)) (va_cwS 1 hts gX0_cell_X0_hasVariable rfl rfl rfl (by decide +kernel) ⟨Nat.le_of_ble_eq_true rfl, Nat.le_of_ble_eq_true rfl⟩) preEq rfl rfl hl.1 rfl (lv_room (Nat.le_of_ble_eq_true rfl)) dX0_cell_33 ⟨Nat.le_of_ble_eq_true rfl, Nat.le_of_ble_eq_true rfl⟩) ?_
      refine gz_ifeqB (tgt := 49) hx hb dX0_cell_36 (by decide) (fun c_6 => False.elim (by omega)) (fun c_6 => ?_)
      refine lv_iload hx hb dX0_cell_39 (lv_at hl 4 rfl) ?_
      refine gz_callR (W.runS (As := [.int (x)]) (rest := []) ⟨hx, hb, hml, hown, hts⟩ (cG_isVariable l x) (va_cwS 1 hts gX0_cell_X0_isVariable rfl rfl rfl (by decide +kernel) ⟨Nat.le_of_ble_eq_true rfl, Nat.le_of_ble_eq_true rfl⟩) preEq rfl rfl hl.1 rfl (lv_room (Nat.le_of_ble_eq_true rfl)) dX0_cell_41 ⟨Nat.le_of_ble_eq_true rfl, Nat.le_of_ble_eq_true rfl⟩) ?_
      refine gz_ifneB (tgt := 49) hx hb dX0_cell_44 (by decide) (fun c_7 => ?_) (fun c_7 => False.elim (by omega))
      refine lv_iload_n hx hb dX0_cell_49 rfl (lv_at hl 3 rfl) ?_
      refine gz_callR (W.runS (As := [.int (nI k)]) (rest := []) ⟨hx, hb, hml, hown, hts⟩ (cG_isCoil l (nI k)) (va_cwS 1 hts gX0_cell_X0_isCoil rfl rfl rfl (by decide +kernel) ⟨Nat.le_of_ble_eq_true rfl, Nat.le_of_ble_eq_true rfl⟩) preEq rfl rfl hl.1 rfl (lv_room (Nat.le_of_ble_eq_true rfl)) dX0_cell_50 ⟨Nat.le_of_ble_eq_true rfl, Nat.le_of_ble_eq_true rfl⟩) ?_
      refine gz_ifeqB (tgt := 68) hx hb dX0_cell_53 (by decide) (fun c_8 => False.elim (by omega)) (fun c_8 => ?_)
      refine lv_iload_n hx hb dX0_cell_56 rfl (lv_at hl 2 rfl) ?_
      refine lv_aload_n hx hb dX0_cell_57 rfl (lv_at hl 0 rfl) ?_
      refine va_get (D := (dC, dI)) (ci := 0) (v := .int (nI cn)) (C := RX0) (T := TX0) (N := 9) hx hb hts hin0 hown hK hP 0 rfl rfl 7 (by decide) lk32 (fun _ h9 => h9) rfl dX0_cell_58 ?_
      refine lv_iconst (v := nI 1) hx hb dX0_cell_61 (by decide) ?_
      refine gz_isub (i := cn) (j := 1) hx hb dX0_cell_62 (by omega) ?_
      refine gz_icmp_eq (tgt := 68) (za := ((j : Nat) : Int)) (zb := ((cn - 1 : Nat) : Int)) hx hb dX0_cell_63 (by decide) (nI_toInt (by omega)) (nI_toInt (by omega)) (fun c_9 => ?_) (fun c_9 => False.elim (by omega))
      refine lv_iload_n hx hb dX0_cell_68 rfl (lv_at hl 1 rfl) ?_
      refine lv_iload_n hx hb dX0_cell_69 rfl (lv_at hl 2 rfl) ?_
      refine gz_callR (W.runS (As := [.int (nI i), .int (nI j)]) (rest := []) ⟨hx, hb, hml, hown, hts⟩ (cG_cellAt l i j) (va_cwS 2 hts gX0_cell_X0_cellAt rfl rfl rfl (by decide +kernel) ⟨Nat.le_of_ble_eq_true rfl, Nat.le_of_ble_eq_true rfl⟩) preEq rfl rfl hl.1 rfl (lv_room (Nat.le_of_ble_eq_true rfl)) dX0_cell_70 ⟨Nat.le_of_ble_eq_true rfl, Nat.le_of_ble_eq_true rfl⟩) ?_
      refine lv_istore (lv' := [(5, .int (nI (i * 12 + j))), (0, .ref h), (1, .int (nI i)), (2, .int (nI j)), (3, .int (nI k)), (4, .int (x))]) hx hb dX0_cell_73 hl (by decide) rfl (fun ls hl => ?_)
      refine lv_aload_n hx hb dX0_cell_75 rfl (lv_at hl 1 rfl) ?_
      refine va_get (D := (dC, dI)) (ci := 0) (v := .ref qk) (C := RX0) (T := TX0) (N := 9) hx hb hts hin0 hown hK hP 0 rfl rfl 0 (by decide) lk9 (fun _ h9 => h9) rfl dX0_cell_76 ?_
      refine lv_iload hx hb dX0_cell_79 (lv_at hl 0 rfl) ?_
      refine gz_iald (k := i * 12 + j) hx hb hK hP 1 0 rfl rfl (by omega) (by omega) dX0_cell_81 ?_
      refine lv_istore (lv' := [(6, .int (fk (i * 12 + j))), (5, .int (nI (i * 12 + j))), (0, .ref h), (1, .int (nI i)), (2, .int (nI j)), (3, .int (nI k)), (4, .int (x))]) hx hb dX0_cell_82 hl (by decide) rfl (fun ls hl => ?_)
      refine lv_aload_n hx hb dX0_cell_84 rfl (lv_at hl 2 rfl) ?_
      refine va_get (D := (dC, dI)) (ci := 0) (v := .ref qk) (C := RX0) (T := TX0) (N := 9) hx hb hts hin0 hown hK hP 0 rfl rfl 0 (by decide) lk9 (fun _ h9 => h9) rfl dX0_cell_85 ?_
      refine lv_iload hx hb dX0_cell_88 (lv_at hl 1 rfl) ?_
      refine lv_iload_n hx hb dX0_cell_90 rfl (lv_at hl 5 rfl) ?_
      refine gz_iast (k := i * 12 + j) hx hb hK hP hD hS 1 0 rfl rfl (by omega) (by omega) dX0_cell_91 (fun H locs hP hD hS => ?_)
      have hP : va_P (dC, dI) vwCl (gw cA h qk qc qs ql qp qv (upd fk (i * 12 + j) (nI k)) fc fs fl fp fv (nI rn) (nI cn) sc) H := hP
      have hD : va_D A (gw cA h qk qc qs ql qp qv (upd fk (i * 12 + j) (nI k)) fc fs fl fp fv (nI rn) (nI cn) sc) := hD
      refine lv_aload_n hx hb dX0_cell_92 rfl (lv_at hl 2 rfl) ?_
      refine va_get (D := (dC, dI)) (ci := 0) (v := .ref qc) (C := RX0) (T := TX0) (N := 9) hx hb hts hin0 hown hK hP 0 rfl rfl 1 (by decide) lk13 (fun _ h9 => h9) rfl dX0_cell_93 ?_
      refine lv_iload hx hb dX0_cell_96 (lv_at hl 1 rfl) ?_
      refine lv_iload_n hx hb dX0_cell_98 rfl (lv_at hl 5 rfl) ?_
      refine gz_callR (W.runS (As := [.int (nI k)]) (rest := [.int (nI (i * 12 + j)), .ref qc]) ⟨hx, hb, hml, hown, hts⟩ (cG_hasVariable l (nI k)) (va_cwS 1 hts gX0_cell_X0_hasVariable rfl rfl rfl (by decide +kernel) ⟨Nat.le_of_ble_eq_true rfl, Nat.le_of_ble_eq_true rfl⟩) preEq rfl rfl hl.1 rfl (lv_room (Nat.le_of_ble_eq_true rfl)) dX0_cell_99 ⟨Nat.le_of_ble_eq_true rfl, Nat.le_of_ble_eq_true rfl⟩) ?_
      refine gz_ifeqB (tgt := 110) hx hb dX0_cell_102 (by decide) (fun c_10 => False.elim (by omega)) (fun c_10 => ?_)
      refine lv_iload hx hb dX0_cell_105 (lv_at hl 6 rfl) ?_
      refine lv_goto (tgt := 111) hx hb dX0_cell_107 (by decide) ?_
      refine gz_iast (k := i * 12 + j) hx hb hK hP hD hS 2 0 rfl rfl (by omega) (by omega) dX0_cell_111 (fun H locs hP hD hS => ?_)
      have hP : va_P (dC, dI) vwCl (gw cA h qk qc qs ql qp qv (upd fk (i * 12 + j) (nI k)) (upd fc (i * 12 + j) x) fs fl fp fv (nI rn) (nI cn) sc) H := hP
      have hD : va_D A (gw cA h qk qc qs ql qp qv (upd fk (i * 12 + j) (nI k)) (upd fc (i * 12 + j) x) fs fl fp fv (nI rn) (nI cn) sc) := hD
      refine lv_aload_n hx hb dX0_cell_112 rfl (lv_at hl 2 rfl) ?_
      refine va_get (D := (dC, dI)) (ci := 0) (v := .ref qs) (C := RX0) (T := TX0) (N := 9) hx hb hts hin0 hown hK hP 0 rfl rfl 2 (by decide) lk16 (fun _ h9 => h9) rfl dX0_cell_113 ?_
      refine lv_iload hx hb dX0_cell_116 (lv_at hl 1 rfl) ?_
      refine lv_iconst (v := nI 0) hx hb dX0_cell_118 (by decide) ?_
      refine gz_iast (k := i * 12 + j) hx hb hK hP hD hS 3 0 rfl rfl (by omega) (by omega) dX0_cell_119 (fun H locs hP hD hS => ?_)
      have hP : va_P (dC, dI) vwCl (gw cA h qk qc qs ql qp qv (upd fk (i * 12 + j) (nI k)) (upd fc (i * 12 + j) x) (upd fs (i * 12 + j) (nI 0)) fl fp fv (nI rn) (nI cn) sc) H := hP
      have hD : va_D A (gw cA h qk qc qs ql qp qv (upd fk (i * 12 + j) (nI k)) (upd fc (i * 12 + j) x) (upd fs (i * 12 + j) (nI 0)) fl fp fv (nI rn) (nI cn) sc) := hD
      refine lv_aload_n hx hb dX0_cell_120 rfl (lv_at hl 2 rfl) ?_
      refine lv_iconst (v := nI 0) hx hb dX0_cell_121 (by decide) ?_
      refine va_put (D := (dC, dI)) (ci := 0) (v := .int (nI 0)) (ty := .boolean) (C := RX0) (T := TX0) (N := 9) hx hb hts hin0 tyX0 tyX0_ok nmX0 hown hK hP hD hS 0 rfl rfl 8 (by decide) lk35 (fun _ h9 => h9) rfl (by decide +kernel) rfl rfl (Nat.le_of_ble_eq_true rfl) dX0_cell_122 (fun H locs hP hD hS => ?_)
      have hP : va_P (dC, dI) vwCl (gw cA h qk qc qs ql qp qv (upd fk (i * 12 + j) (nI k)) (upd fc (i * 12 + j) x) (upd fs (i * 12 + j) (nI 0)) fl fp fv (nI rn) (nI cn) (nI 0)) H := hP
      have hD : va_D A (gw cA h qk qc qs ql qp qv (upd fk (i * 12 + j) (nI k)) (upd fc (i * 12 + j) x) (upd fs (i * 12 + j) (nI 0)) fl fp fv (nI rn) (nI cn) (nI 0)) := hD
      refine lv_iload hx hb dX0_cell_125 (lv_at hl 0 rfl) ?_
      exact W.iret (v := fk (i * 12 + j)) hx hb hr (fun t ht hW => ⟨⟨fk (i * 12 + j), (), rfl, rfl, by rw [ht]; exact (by rw [if_pos hk2]; exact hP), va_K.moved hW.alike hK, (by rw [if_pos hk2]; exact hD)⟩, hS.F ht⟩) hS.2.2 dX0_cell_127
    · skip
      refine lv_aload_n hx hb dX0_cell_0 rfl (lv_at hl 0 rfl) ?_
      refine lv_iload_n hx hb dX0_cell_1 rfl (lv_at hl 1 rfl) ?_
      refine gz_callR (W.runV (As := [.int (nI i)]) (rest := []) ⟨hx, hb, hml, hown, hts⟩ (cG_isRow l dC dI cA cZ h qk qc qs ql qp qv fk fc fs fl fp fv rn cn sc (nI i) hrn.2 hcn.2) (cwV 1 hts gX0_cell_X0_isRow rfl rfl rfl (by decide +kernel) ⟨Nat.le_of_ble_eq_true rfl, Nat.le_of_ble_eq_true rfl⟩) (gz_preV (q := (RX0, TX0, 9)) (ci := 0) hK hP [0, 1, 2, 3, 4, 5, 6] rfl rfl rfl) rfl rfl hl.1 rfl (lv_room (Nat.le_of_ble_eq_true rfl)) dX0_cell_2 ⟨Nat.le_of_ble_eq_true rfl, Nat.le_of_ble_eq_true rfl⟩) ?_
      refine gz_ifeqB (tgt := 30) hx hb dX0_cell_5 (by decide) (fun c_1 => False.elim (by omega)) (fun c_1 => ?_)
      refine lv_iload_n hx hb dX0_cell_8 rfl (lv_at hl 2 rfl) ?_
      refine gz_if_lt (tgt := 30) (za := ((j : Nat) : Int)) hx hb dX0_cell_9 (by decide) (nI_toInt (by omega)) (fun c_2 => False.elim (by omega)) (fun c_2 => ?_)
      refine lv_iload_n hx hb dX0_cell_12 rfl (lv_at hl 2 rfl) ?_
      refine lv_aload_n hx hb dX0_cell_13 rfl (lv_at hl 0 rfl) ?_
      refine va_get (D := (dC, dI)) (ci := 0) (v := .int (nI cn)) (C := RX0) (T := TX0) (N := 9) hx hb hts hin0 hown hK hP 0 rfl rfl 7 (by decide) lk32 (fun _ h9 => h9) rfl dX0_cell_14 ?_
      refine gz_icmp_ge (tgt := 30) (za := ((j : Nat) : Int)) (zb := ((cn : Nat) : Int)) hx hb dX0_cell_17 (by decide) (nI_toInt (by omega)) (nI_toInt (by omega)) (fun c_3 => False.elim (by omega)) (fun c_3 => ?_)
      refine lv_iload_n hx hb dX0_cell_20 rfl (lv_at hl 3 rfl) ?_
      refine gz_if_lt (tgt := 30) (za := ((k : Nat) : Int)) hx hb dX0_cell_21 (by decide) (nI_toInt (by omega)) (fun c_4 => False.elim (by omega)) (fun c_4 => ?_)
      refine lv_iload_n hx hb dX0_cell_24 rfl (lv_at hl 3 rfl) ?_
      refine lv_bipush (v := nI 9) hx hb dX0_cell_25 (by decide) ?_
      refine gz_icmp_le (tgt := 32) (za := ((k : Nat) : Int)) (zb := ((9 : Nat) : Int)) hx hb dX0_cell_27 (by decide) (nI_toInt (by omega)) (nI_toInt (by omega)) (fun c_5 => ?_) (fun c_5 => False.elim (by omega))
      refine lv_iload_n hx hb dX0_cell_32 rfl (lv_at hl 3 rfl) ?_
      refine gz_callR (W.runS (As := [.int (nI k)]) (rest := []) ⟨hx, hb, hml, hown, hts⟩ (cG_hasVariable l (nI k)) (va_cwS 1 hts gX0_cell_X0_hasVariable rfl rfl rfl (by decide +kernel) ⟨Nat.le_of_ble_eq_true rfl, Nat.le_of_ble_eq_true rfl⟩) preEq rfl rfl hl.1 rfl (lv_room (Nat.le_of_ble_eq_true rfl)) dX0_cell_33 ⟨Nat.le_of_ble_eq_true rfl, Nat.le_of_ble_eq_true rfl⟩) ?_
      refine gz_ifeqB (tgt := 49) hx hb dX0_cell_36 (by decide) (fun c_6 => False.elim (by omega)) (fun c_6 => ?_)
      refine lv_iload hx hb dX0_cell_39 (lv_at hl 4 rfl) ?_
      refine gz_callR (W.runS (As := [.int (x)]) (rest := []) ⟨hx, hb, hml, hown, hts⟩ (cG_isVariable l x) (va_cwS 1 hts gX0_cell_X0_isVariable rfl rfl rfl (by decide +kernel) ⟨Nat.le_of_ble_eq_true rfl, Nat.le_of_ble_eq_true rfl⟩) preEq rfl rfl hl.1 rfl (lv_room (Nat.le_of_ble_eq_true rfl)) dX0_cell_41 ⟨Nat.le_of_ble_eq_true rfl, Nat.le_of_ble_eq_true rfl⟩) ?_
      refine gz_ifneB (tgt := 49) hx hb dX0_cell_44 (by decide) (fun c_7 => ?_) (fun c_7 => False.elim (by omega))
      refine lv_iload_n hx hb dX0_cell_49 rfl (lv_at hl 3 rfl) ?_
      refine gz_callR (W.runS (As := [.int (nI k)]) (rest := []) ⟨hx, hb, hml, hown, hts⟩ (cG_isCoil l (nI k)) (va_cwS 1 hts gX0_cell_X0_isCoil rfl rfl rfl (by decide +kernel) ⟨Nat.le_of_ble_eq_true rfl, Nat.le_of_ble_eq_true rfl⟩) preEq rfl rfl hl.1 rfl (lv_room (Nat.le_of_ble_eq_true rfl)) dX0_cell_50 ⟨Nat.le_of_ble_eq_true rfl, Nat.le_of_ble_eq_true rfl⟩) ?_
      refine gz_ifeqB (tgt := 68) hx hb dX0_cell_53 (by decide) (fun c_8 => ?_) (fun c_8 => False.elim (by omega))
      refine lv_iload_n hx hb dX0_cell_68 rfl (lv_at hl 1 rfl) ?_
      refine lv_iload_n hx hb dX0_cell_69 rfl (lv_at hl 2 rfl) ?_
      refine gz_callR (W.runS (As := [.int (nI i), .int (nI j)]) (rest := []) ⟨hx, hb, hml, hown, hts⟩ (cG_cellAt l i j) (va_cwS 2 hts gX0_cell_X0_cellAt rfl rfl rfl (by decide +kernel) ⟨Nat.le_of_ble_eq_true rfl, Nat.le_of_ble_eq_true rfl⟩) preEq rfl rfl hl.1 rfl (lv_room (Nat.le_of_ble_eq_true rfl)) dX0_cell_70 ⟨Nat.le_of_ble_eq_true rfl, Nat.le_of_ble_eq_true rfl⟩) ?_
      refine lv_istore (lv' := [(5, .int (nI (i * 12 + j))), (0, .ref h), (1, .int (nI i)), (2, .int (nI j)), (3, .int (nI k)), (4, .int (x))]) hx hb dX0_cell_73 hl (by decide) rfl (fun ls hl => ?_)
      refine lv_aload_n hx hb dX0_cell_75 rfl (lv_at hl 1 rfl) ?_
      refine va_get (D := (dC, dI)) (ci := 0) (v := .ref qk) (C := RX0) (T := TX0) (N := 9) hx hb hts hin0 hown hK hP 0 rfl rfl 0 (by decide) lk9 (fun _ h9 => h9) rfl dX0_cell_76 ?_
      refine lv_iload hx hb dX0_cell_79 (lv_at hl 0 rfl) ?_
      refine gz_iald (k := i * 12 + j) hx hb hK hP 1 0 rfl rfl (by omega) (by omega) dX0_cell_81 ?_
      refine lv_istore (lv' := [(6, .int (fk (i * 12 + j))), (5, .int (nI (i * 12 + j))), (0, .ref h), (1, .int (nI i)), (2, .int (nI j)), (3, .int (nI k)), (4, .int (x))]) hx hb dX0_cell_82 hl (by decide) rfl (fun ls hl => ?_)
      refine lv_aload_n hx hb dX0_cell_84 rfl (lv_at hl 2 rfl) ?_
      refine va_get (D := (dC, dI)) (ci := 0) (v := .ref qk) (C := RX0) (T := TX0) (N := 9) hx hb hts hin0 hown hK hP 0 rfl rfl 0 (by decide) lk9 (fun _ h9 => h9) rfl dX0_cell_85 ?_
      refine lv_iload hx hb dX0_cell_88 (lv_at hl 1 rfl) ?_
      refine lv_iload_n hx hb dX0_cell_90 rfl (lv_at hl 5 rfl) ?_
      refine gz_iast (k := i * 12 + j) hx hb hK hP hD hS 1 0 rfl rfl (by omega) (by omega) dX0_cell_91 (fun H locs hP hD hS => ?_)
      have hP : va_P (dC, dI) vwCl (gw cA h qk qc qs ql qp qv (upd fk (i * 12 + j) (nI k)) fc fs fl fp fv (nI rn) (nI cn) sc) H := hP
      have hD : va_D A (gw cA h qk qc qs ql qp qv (upd fk (i * 12 + j) (nI k)) fc fs fl fp fv (nI rn) (nI cn) sc) := hD
      refine lv_aload_n hx hb dX0_cell_92 rfl (lv_at hl 2 rfl) ?_
      refine va_get (D := (dC, dI)) (ci := 0) (v := .ref qc) (C := RX0) (T := TX0) (N := 9) hx hb hts hin0 hown hK hP 0 rfl rfl 1 (by decide) lk13 (fun _ h9 => h9) rfl dX0_cell_93 ?_
      refine lv_iload hx hb dX0_cell_96 (lv_at hl 1 rfl) ?_
      refine lv_iload_n hx hb dX0_cell_98 rfl (lv_at hl 5 rfl) ?_
      refine gz_callR (W.runS (As := [.int (nI k)]) (rest := [.int (nI (i * 12 + j)), .ref qc]) ⟨hx, hb, hml, hown, hts⟩ (cG_hasVariable l (nI k)) (va_cwS 1 hts gX0_cell_X0_hasVariable rfl rfl rfl (by decide +kernel) ⟨Nat.le_of_ble_eq_true rfl, Nat.le_of_ble_eq_true rfl⟩) preEq rfl rfl hl.1 rfl (lv_room (Nat.le_of_ble_eq_true rfl)) dX0_cell_99 ⟨Nat.le_of_ble_eq_true rfl, Nat.le_of_ble_eq_true rfl⟩) ?_
      refine gz_ifeqB (tgt := 110) hx hb dX0_cell_102 (by decide) (fun c_9 => False.elim (by omega)) (fun c_9 => ?_)
      refine lv_iload hx hb dX0_cell_105 (lv_at hl 6 rfl) ?_
      refine lv_goto (tgt := 111) hx hb dX0_cell_107 (by decide) ?_
      refine gz_iast (k := i * 12 + j) hx hb hK hP hD hS 2 0 rfl rfl (by omega) (by omega) dX0_cell_111 (fun H locs hP hD hS => ?_)
      have hP : va_P (dC, dI) vwCl (gw cA h qk qc qs ql qp qv (upd fk (i * 12 + j) (nI k)) (upd fc (i * 12 + j) x) fs fl fp fv (nI rn) (nI cn) sc) H := hP
      have hD : va_D A (gw cA h qk qc qs ql qp qv (upd fk (i * 12 + j) (nI k)) (upd fc (i * 12 + j) x) fs fl fp fv (nI rn) (nI cn) sc) := hD
      refine lv_aload_n hx hb dX0_cell_112 rfl (lv_at hl 2 rfl) ?_
      refine va_get (D := (dC, dI)) (ci := 0) (v := .ref qs) (C := RX0) (T := TX0) (N := 9) hx hb hts hin0 hown hK hP 0 rfl rfl 2 (by decide) lk16 (fun _ h9 => h9) rfl dX0_cell_113 ?_
      refine lv_iload hx hb dX0_cell_116 (lv_at hl 1 rfl) ?_
      refine lv_iconst (v := nI 0) hx hb dX0_cell_118 (by decide) ?_
      refine gz_iast (k := i * 12 + j) hx hb hK hP hD hS 3 0 rfl rfl (by omega) (by omega) dX0_cell_119 (fun H locs hP hD hS => ?_)
      have hP : va_P (dC, dI) vwCl (gw cA h qk qc qs ql qp qv (upd fk (i * 12 + j) (nI k)) (upd fc (i * 12 + j) x) (upd fs (i * 12 + j) (nI 0)) fl fp fv (nI rn) (nI cn) sc) H := hP
      have hD : va_D A (gw cA h qk qc qs ql qp qv (upd fk (i * 12 + j) (nI k)) (upd fc (i * 12 + j) x) (upd fs (i * 12 + j) (nI 0)) fl fp fv (nI rn) (nI cn) sc) := hD
      refine lv_aload_n hx hb dX0_cell_120 rfl (lv_at hl 2 rfl) ?_
      refine lv_iconst (v := nI 0) hx hb dX0_cell_121 (by decide) ?_
      refine va_put (D := (dC, dI)) (ci := 0) (v := .int (nI 0)) (ty := .boolean) (C := RX0) (T := TX0) (N := 9) hx hb hts hin0 tyX0 tyX0_ok nmX0 hown hK hP hD hS 0 rfl rfl 8 (by decide) lk35 (fun _ h9 => h9) rfl (by decide +kernel) rfl rfl (Nat.le_of_ble_eq_true rfl) dX0_cell_122 (fun H locs hP hD hS => ?_)
      have hP : va_P (dC, dI) vwCl (gw cA h qk qc qs ql qp qv (upd fk (i * 12 + j) (nI k)) (upd fc (i * 12 + j) x) (upd fs (i * 12 + j) (nI 0)) fl fp fv (nI rn) (nI cn) (nI 0)) H := hP
      have hD : va_D A (gw cA h qk qc qs ql qp qv (upd fk (i * 12 + j) (nI k)) (upd fc (i * 12 + j) x) (upd fs (i * 12 + j) (nI 0)) fl fp fv (nI rn) (nI cn) (nI 0)) := hD
      refine lv_iload hx hb dX0_cell_125 (lv_at hl 0 rfl) ?_
      exact W.iret (v := fk (i * 12 + j)) hx hb hr (fun t ht hW => ⟨⟨fk (i * 12 + j), (), rfl, rfl, by rw [ht]; exact (by rw [if_pos hk2]; exact hP), va_K.moved hW.alike hK, (by rw [if_pos hk2]; exact hD)⟩, hS.F ht⟩) hS.2.2 dX0_cell_127
  · skip
    refine lv_aload_n hx hb dX0_cell_0 rfl (lv_at hl 0 rfl) ?_
    refine lv_iload_n hx hb dX0_cell_1 rfl (lv_at hl 1 rfl) ?_
    refine gz_callR (W.runV (As := [.int (nI i)]) (rest := []) ⟨hx, hb, hml, hown, hts⟩ (cG_isRow l dC dI cA cZ h qk qc qs ql qp qv fk fc fs fl fp fv rn cn sc (nI i) hrn.2 hcn.2) (cwV 1 hts gX0_cell_X0_isRow rfl rfl rfl (by decide +kernel) ⟨Nat.le_of_ble_eq_true rfl, Nat.le_of_ble_eq_true rfl⟩) (gz_preV (q := (RX0, TX0, 9)) (ci := 0) hK hP [0, 1, 2, 3, 4, 5, 6] rfl rfl rfl) rfl rfl hl.1 rfl (lv_room (Nat.le_of_ble_eq_true rfl)) dX0_cell_2 ⟨Nat.le_of_ble_eq_true rfl, Nat.le_of_ble_eq_true rfl⟩) ?_
    refine gz_ifeqB (tgt := 30) hx hb dX0_cell_5 (by decide) (fun c_1 => False.elim (by omega)) (fun c_1 => ?_)
    refine lv_iload_n hx hb dX0_cell_8 rfl (lv_at hl 2 rfl) ?_
    refine gz_if_lt (tgt := 30) (za := ((j : Nat) : Int)) hx hb dX0_cell_9 (by decide) (nI_toInt (by omega)) (fun c_2 => False.elim (by omega)) (fun c_2 => ?_)
    refine lv_iload_n hx hb dX0_cell_12 rfl (lv_at hl 2 rfl) ?_
    refine lv_aload_n hx hb dX0_cell_13 rfl (lv_at hl 0 rfl) ?_
    refine va_get (D := (dC, dI)) (ci := 0) (v := .int (nI cn)) (C := RX0) (T := TX0) (N := 9) hx hb hts hin0 hown hK hP 0 rfl rfl 7 (by decide) lk32 (fun _ h9 => h9) rfl dX0_cell_14 ?_
    refine gz_icmp_ge (tgt := 30) (za := ((j : Nat) : Int)) (zb := ((cn : Nat) : Int)) hx hb dX0_cell_17 (by decide) (nI_toInt (by omega)) (nI_toInt (by omega)) (fun c_3 => False.elim (by omega)) (fun c_3 => ?_)
    refine lv_iload_n hx hb dX0_cell_20 rfl (lv_at hl 3 rfl) ?_
    refine gz_if_lt (tgt := 30) (za := ((k : Nat) : Int)) hx hb dX0_cell_21 (by decide) (nI_toInt (by omega)) (fun c_4 => False.elim (by omega)) (fun c_4 => ?_)
    refine lv_iload_n hx hb dX0_cell_24 rfl (lv_at hl 3 rfl) ?_
    refine lv_bipush (v := nI 9) hx hb dX0_cell_25 (by decide) ?_
    refine gz_icmp_le (tgt := 32) (za := ((k : Nat) : Int)) (zb := ((9 : Nat) : Int)) hx hb dX0_cell_27 (by decide) (nI_toInt (by omega)) (nI_toInt (by omega)) (fun c_5 => ?_) (fun c_5 => False.elim (by omega))
    refine lv_iload_n hx hb dX0_cell_32 rfl (lv_at hl 3 rfl) ?_
    refine gz_callR (W.runS (As := [.int (nI k)]) (rest := []) ⟨hx, hb, hml, hown, hts⟩ (cG_hasVariable l (nI k)) (va_cwS 1 hts gX0_cell_X0_hasVariable rfl rfl rfl (by decide +kernel) ⟨Nat.le_of_ble_eq_true rfl, Nat.le_of_ble_eq_true rfl⟩) preEq rfl rfl hl.1 rfl (lv_room (Nat.le_of_ble_eq_true rfl)) dX0_cell_33 ⟨Nat.le_of_ble_eq_true rfl, Nat.le_of_ble_eq_true rfl⟩) ?_
    refine gz_ifeqB (tgt := 49) hx hb dX0_cell_36 (by decide) (fun c_6 => ?_) (fun c_6 => False.elim (by omega))
    refine lv_iload_n hx hb dX0_cell_49 rfl (lv_at hl 3 rfl) ?_
    refine gz_callR (W.runS (As := [.int (nI k)]) (rest := []) ⟨hx, hb, hml, hown, hts⟩ (cG_isCoil l (nI k)) (va_cwS 1 hts gX0_cell_X0_isCoil rfl rfl rfl (by decide +kernel) ⟨Nat.le_of_ble_eq_true rfl, Nat.le_of_ble_eq_true rfl⟩) preEq rfl rfl hl.1 rfl (lv_room (Nat.le_of_ble_eq_true rfl)) dX0_cell_50 ⟨Nat.le_of_ble_eq_true rfl, Nat.le_of_ble_eq_true rfl⟩) ?_
    refine gz_ifeqB (tgt := 68) hx hb dX0_cell_53 (by decide) (fun c_7 => ?_) (fun c_7 => False.elim (by omega))
    refine lv_iload_n hx hb dX0_cell_68 rfl (lv_at hl 1 rfl) ?_
    refine lv_iload_n hx hb dX0_cell_69 rfl (lv_at hl 2 rfl) ?_
    refine gz_callR (W.runS (As := [.int (nI i), .int (nI j)]) (rest := []) ⟨hx, hb, hml, hown, hts⟩ (cG_cellAt l i j) (va_cwS 2 hts gX0_cell_X0_cellAt rfl rfl rfl (by decide +kernel) ⟨Nat.le_of_ble_eq_true rfl, Nat.le_of_ble_eq_true rfl⟩) preEq rfl rfl hl.1 rfl (lv_room (Nat.le_of_ble_eq_true rfl)) dX0_cell_70 ⟨Nat.le_of_ble_eq_true rfl, Nat.le_of_ble_eq_true rfl⟩) ?_
    refine lv_istore (lv' := [(5, .int (nI (i * 12 + j))), (0, .ref h), (1, .int (nI i)), (2, .int (nI j)), (3, .int (nI k)), (4, .int (x))]) hx hb dX0_cell_73 hl (by decide) rfl (fun ls hl => ?_)
    refine lv_aload_n hx hb dX0_cell_75 rfl (lv_at hl 1 rfl) ?_
    refine va_get (D := (dC, dI)) (ci := 0) (v := .ref qk) (C := RX0) (T := TX0) (N := 9) hx hb hts hin0 hown hK hP 0 rfl rfl 0 (by decide) lk9 (fun _ h9 => h9) rfl dX0_cell_76 ?_
    refine lv_iload hx hb dX0_cell_79 (lv_at hl 0 rfl) ?_
    refine gz_iald (k := i * 12 + j) hx hb hK hP 1 0 rfl rfl (by omega) (by omega) dX0_cell_81 ?_
    refine lv_istore (lv' := [(6, .int (fk (i * 12 + j))), (5, .int (nI (i * 12 + j))), (0, .ref h), (1, .int (nI i)), (2, .int (nI j)), (3, .int (nI k)), (4, .int (x))]) hx hb dX0_cell_82 hl (by decide) rfl (fun ls hl => ?_)
    refine lv_aload_n hx hb dX0_cell_84 rfl (lv_at hl 2 rfl) ?_
    refine va_get (D := (dC, dI)) (ci := 0) (v := .ref qk) (C := RX0) (T := TX0) (N := 9) hx hb hts hin0 hown hK hP 0 rfl rfl 0 (by decide) lk9 (fun _ h9 => h9) rfl dX0_cell_85 ?_
    refine lv_iload hx hb dX0_cell_88 (lv_at hl 1 rfl) ?_
    refine lv_iload_n hx hb dX0_cell_90 rfl (lv_at hl 5 rfl) ?_
    refine gz_iast (k := i * 12 + j) hx hb hK hP hD hS 1 0 rfl rfl (by omega) (by omega) dX0_cell_91 (fun H locs hP hD hS => ?_)
    have hP : va_P (dC, dI) vwCl (gw cA h qk qc qs ql qp qv (upd fk (i * 12 + j) (nI k)) fc fs fl fp fv (nI rn) (nI cn) sc) H := hP
    have hD : va_D A (gw cA h qk qc qs ql qp qv (upd fk (i * 12 + j) (nI k)) fc fs fl fp fv (nI rn) (nI cn) sc) := hD
    refine lv_aload_n hx hb dX0_cell_92 rfl (lv_at hl 2 rfl) ?_
    refine va_get (D := (dC, dI)) (ci := 0) (v := .ref qc) (C := RX0) (T := TX0) (N := 9) hx hb hts hin0 hown hK hP 0 rfl rfl 1 (by decide) lk13 (fun _ h9 => h9) rfl dX0_cell_93 ?_
    refine lv_iload hx hb dX0_cell_96 (lv_at hl 1 rfl) ?_
    refine lv_iload_n hx hb dX0_cell_98 rfl (lv_at hl 5 rfl) ?_
    refine gz_callR (W.runS (As := [.int (nI k)]) (rest := [.int (nI (i * 12 + j)), .ref qc]) ⟨hx, hb, hml, hown, hts⟩ (cG_hasVariable l (nI k)) (va_cwS 1 hts gX0_cell_X0_hasVariable rfl rfl rfl (by decide +kernel) ⟨Nat.le_of_ble_eq_true rfl, Nat.le_of_ble_eq_true rfl⟩) preEq rfl rfl hl.1 rfl (lv_room (Nat.le_of_ble_eq_true rfl)) dX0_cell_99 ⟨Nat.le_of_ble_eq_true rfl, Nat.le_of_ble_eq_true rfl⟩) ?_
    refine gz_ifeqB (tgt := 110) hx hb dX0_cell_102 (by decide) (fun c_8 => ?_) (fun c_8 => False.elim (by omega))
    refine lv_iconst (v := nI 0) hx hb dX0_cell_110 (by decide) ?_
    refine gz_iast (k := i * 12 + j) hx hb hK hP hD hS 2 0 rfl rfl (by omega) (by omega) dX0_cell_111 (fun H locs hP hD hS => ?_)
    have hP : va_P (dC, dI) vwCl (gw cA h qk qc qs ql qp qv (upd fk (i * 12 + j) (nI k)) (upd fc (i * 12 + j) (nI 0)) fs fl fp fv (nI rn) (nI cn) sc) H := hP
    have hD : va_D A (gw cA h qk qc qs ql qp qv (upd fk (i * 12 + j) (nI k)) (upd fc (i * 12 + j) (nI 0)) fs fl fp fv (nI rn) (nI cn) sc) := hD
    refine lv_aload_n hx hb dX0_cell_112 rfl (lv_at hl 2 rfl) ?_
    refine va_get (D := (dC, dI)) (ci := 0) (v := .ref qs) (C := RX0) (T := TX0) (N := 9) hx hb hts hin0 hown hK hP 0 rfl rfl 2 (by decide) lk16 (fun _ h9 => h9) rfl dX0_cell_113 ?_
    refine lv_iload hx hb dX0_cell_116 (lv_at hl 1 rfl) ?_
    refine lv_iconst (v := nI 0) hx hb dX0_cell_118 (by decide) ?_
    refine gz_iast (k := i * 12 + j) hx hb hK hP hD hS 3 0 rfl rfl (by omega) (by omega) dX0_cell_119 (fun H locs hP hD hS => ?_)
    have hP : va_P (dC, dI) vwCl (gw cA h qk qc qs ql qp qv (upd fk (i * 12 + j) (nI k)) (upd fc (i * 12 + j) (nI 0)) (upd fs (i * 12 + j) (nI 0)) fl fp fv (nI rn) (nI cn) sc) H := hP
    have hD : va_D A (gw cA h qk qc qs ql qp qv (upd fk (i * 12 + j) (nI k)) (upd fc (i * 12 + j) (nI 0)) (upd fs (i * 12 + j) (nI 0)) fl fp fv (nI rn) (nI cn) sc) := hD
    refine lv_aload_n hx hb dX0_cell_120 rfl (lv_at hl 2 rfl) ?_
    refine lv_iconst (v := nI 0) hx hb dX0_cell_121 (by decide) ?_
    refine va_put (D := (dC, dI)) (ci := 0) (v := .int (nI 0)) (ty := .boolean) (C := RX0) (T := TX0) (N := 9) hx hb hts hin0 tyX0 tyX0_ok nmX0 hown hK hP hD hS 0 rfl rfl 8 (by decide) lk35 (fun _ h9 => h9) rfl (by decide +kernel) rfl rfl (Nat.le_of_ble_eq_true rfl) dX0_cell_122 (fun H locs hP hD hS => ?_)
    have hP : va_P (dC, dI) vwCl (gw cA h qk qc qs ql qp qv (upd fk (i * 12 + j) (nI k)) (upd fc (i * 12 + j) (nI 0)) (upd fs (i * 12 + j) (nI 0)) fl fp fv (nI rn) (nI cn) (nI 0)) H := hP
    have hD : va_D A (gw cA h qk qc qs ql qp qv (upd fk (i * 12 + j) (nI k)) (upd fc (i * 12 + j) (nI 0)) (upd fs (i * 12 + j) (nI 0)) fl fp fv (nI rn) (nI cn) (nI 0)) := hD
    refine lv_iload hx hb dX0_cell_125 (lv_at hl 0 rfl) ?_
    exact W.iret (v := fk (i * 12 + j)) hx hb hr (fun t ht hW => ⟨⟨fk (i * 12 + j), (), rfl, rfl, by rw [ht]; exact (by rw [if_neg hk2]; exact hP), va_K.moved hW.alike hK, (by rw [if_neg hk2]; exact hD)⟩, hS.F ht⟩) hS.2.2 dX0_cell_127
set_option maxHeartbeats 4000000 in
set_option maxRecDepth 100000 in
theorem cG_cell_bad (l : Launch) (dC : Nat → ClassId) (dI : Nat → Nat → Nat) (cA cZ : ClassId) (h qk qc qs ql qp qv : Nat) (fk fc fs fl fp fv : Nat → Int32) (rn cn : Nat) (sc : Int32) (x y k v : Int32) (hrn : 1 ≤ rn ∧ rn ≤ 12) (hcn : 1 ≤ cn ∧ cn ≤ 12) (hx0 : ¬ (0 ≤ x.toInt ∧ x.toInt < (rn : Int) ∧ 0 ≤ y.toInt ∧ y.toInt < (cn : Int) ∧ 0 ≤ k.toInt ∧ k.toInt ≤ 9 ∧ (k.toInt < 2 ∨ (0 ≤ v.toInt ∧ v.toInt < 40)) ∧ (k.toInt < 6 ∨ y.toInt + 1 = (cn : Int)))) : Met l yX0_cell wsX0_cell ({ frames := 1, cells := 0, slots := 0, locals := 21 }) (gPr (dC, dI) vwCl [(cA, .int), (cZ, .boolean)] [.ref h, .int x, .int y, .int k, .int v] (gw cA h qk qc qs ql qp qv fk fc fs fl fp fv (nI rn) (nI cn) sc)) (QcRead (-1)) 0 0 (fun _ => False) := by
  refine Met.ofW (cc := cX0_cell) (maxL := 7) (ret := (some .int)) (by decide) rfl ?_
  intro p e s m args below meth c s₁ B hml hv
  obtain ⟨rfl, hP, hK⟩ := hv
  have hx := B.exec
  have hb := B.bytes
  have hr := B.returns
  have hts := atoms_spec (ws := wsX0_cell) B.pre
  have hown : s.vm.findClass RX0 = some m.cls := findClass_of_methodNamed B.named
  have hlocks := B.notSynchronized
  have hin0 : ∀ w ∈ u_ws RX0 TX0 9, w ∈ wsX0_cell := by decide +kernel
  have lk32 := hts (.fieldLink RX0 32 "LadderGrid" "columns" "I") (by decide +kernel)
  have lk9 := hts (.fieldLink RX0 9 "LadderGrid" "kinds" "[I") (by decide +kernel)
  have lk13 := hts (.fieldLink RX0 13 "LadderGrid" "cellVariables" "[I") (by decide +kernel)
  have lk16 := hts (.fieldLink RX0 16 "LadderGrid" "seen" "[I") (by decide +kernel)
  have lk35 := hts (.fieldLink RX0 35 "LadderGrid" "scanned" "Z") (by decide +kernel)
  have hl := lv_entry ([.ref h, .int x, .int y, .int k, .int v]) (n := 7) (Nat.le_of_ble_eq_true rfl)
  rw [lg_entry_eq]
  generalize (lg_sl ([.ref h, .int x, .int y, .int k, .int v]) ++ List.replicate (7 - (lg_sl ([.ref h, .int x, .int y, .int k, .int v])).length) Slot.unset).toArray = ls at hl ⊢
  have hl : lv_has ls 7 [(0, .ref h), (1, .int (x)), (2, .int (y)), (3, .int (k)), (4, .int (v))] := hl
  refine lv_aload_n hx hb dX0_cell_0 rfl (lv_at hl 0 rfl) ?_
  refine lv_iload_n hx hb dX0_cell_1 rfl (lv_at hl 1 rfl) ?_
  refine gz_callR (W.runV (As := [.int (x)]) (rest := []) ⟨hx, hb, hml, hown, hts⟩ (cG_isRow l dC dI cA cZ h qk qc qs ql qp qv fk fc fs fl fp fv rn cn sc x hrn.2 hcn.2) (cwV 1 hts gX0_cell_X0_isRow rfl rfl rfl (by decide +kernel) ⟨Nat.le_of_ble_eq_true rfl, Nat.le_of_ble_eq_true rfl⟩) (gz_preV (q := (RX0, TX0, 9)) (ci := 0) hK hP [0, 1, 2, 3, 4, 5, 6] rfl rfl rfl) rfl rfl hl.1 rfl (lv_room (Nat.le_of_ble_eq_true rfl)) dX0_cell_2 ⟨Nat.le_of_ble_eq_true rfl, Nat.le_of_ble_eq_true rfl⟩) ?_
  refine gz_ifeqB (tgt := 30) hx hb dX0_cell_5 (by decide) (fun c_1 => ?_) (fun c_1 => ?_)
  · skip
    refine lv_iconst (v := (-1)) hx hb dX0_cell_30 (by decide) ?_
    exact W.iret (v := (-1)) hx hb hr (fun t ht hW => ⟨rfl, ht⟩) (fun q h => absurd h List.not_mem_nil) dX0_cell_31
  · skip
    refine lv_iload_n hx hb dX0_cell_8 rfl (lv_at hl 2 rfl) ?_
    refine gz_if_lt (tgt := 30) (za := y.toInt) hx hb dX0_cell_9 (by decide) rfl (fun c_2 => ?_) (fun c_2 => ?_)
    · skip
      refine lv_iconst (v := (-1)) hx hb dX0_cell_30 (by decide) ?_
      exact W.iret (v := (-1)) hx hb hr (fun t ht hW => ⟨rfl, ht⟩) (fun q h => absurd h List.not_mem_nil) dX0_cell_31
    · skip
      refine lv_iload_n hx hb dX0_cell_12 rfl (lv_at hl 2 rfl) ?_
      refine lv_aload_n hx hb dX0_cell_13 rfl (lv_at hl 0 rfl) ?_
      refine va_get (D := (dC, dI)) (ci := 0) (v := .int (nI cn)) (C := RX0) (T := TX0) (N := 9) hx hb hts hin0 hown hK hP 0 rfl rfl 7 (by decide) lk32 (fun _ h9 => h9) rfl dX0_cell_14 ?_
      refine gz_icmp_ge (tgt := 30) (za := y.toInt) (zb := ((cn : Nat) : Int)) hx hb dX0_cell_17 (by decide) rfl (nI_toInt (by omega)) (fun c_3 => ?_) (fun c_3 => ?_)
      · skip
        refine lv_iconst (v := (-1)) hx hb dX0_cell_30 (by decide) ?_
        exact W.iret (v := (-1)) hx hb hr (fun t ht hW => ⟨rfl, ht⟩) (fun q h => absurd h List.not_mem_nil) dX0_cell_31
      · skip
        refine lv_iload_n hx hb dX0_cell_20 rfl (lv_at hl 3 rfl) ?_
        refine gz_if_lt (tgt := 30) (za := k.toInt) hx hb dX0_cell_21 (by decide) rfl (fun c_4 => ?_) (fun c_4 => ?_)
        · skip
          refine lv_iconst (v := (-1)) hx hb dX0_cell_30 (by decide) ?_
          exact W.iret (v := (-1)) hx hb hr (fun t ht hW => ⟨rfl, ht⟩) (fun q h => absurd h List.not_mem_nil) dX0_cell_31
        · skip
          refine lv_iload_n hx hb dX0_cell_24 rfl (lv_at hl 3 rfl) ?_
          refine lv_bipush (v := nI 9) hx hb dX0_cell_25 (by decide) ?_
          refine gz_icmp_le (tgt := 32) (za := k.toInt) (zb := ((9 : Nat) : Int)) hx hb dX0_cell_27 (by decide) rfl (nI_toInt (by omega)) (fun c_5 => ?_) (fun c_5 => ?_)
          · skip
            refine lv_iload_n hx hb dX0_cell_32 rfl (lv_at hl 3 rfl) ?_
            refine gz_callR (W.runS (As := [.int (k)]) (rest := []) ⟨hx, hb, hml, hown, hts⟩ (cG_hasVariable l k) (va_cwS 1 hts gX0_cell_X0_hasVariable rfl rfl rfl (by decide +kernel) ⟨Nat.le_of_ble_eq_true rfl, Nat.le_of_ble_eq_true rfl⟩) preEq rfl rfl hl.1 rfl (lv_room (Nat.le_of_ble_eq_true rfl)) dX0_cell_33 ⟨Nat.le_of_ble_eq_true rfl, Nat.le_of_ble_eq_true rfl⟩) ?_
            refine gz_ifeqB (tgt := 49) hx hb dX0_cell_36 (by decide) (fun c_6 => ?_) (fun c_6 => ?_)
            · skip
              refine lv_iload_n hx hb dX0_cell_49 rfl (lv_at hl 3 rfl) ?_
              refine gz_callR (W.runS (As := [.int (k)]) (rest := []) ⟨hx, hb, hml, hown, hts⟩ (cG_isCoil l k) (va_cwS 1 hts gX0_cell_X0_isCoil rfl rfl rfl (by decide +kernel) ⟨Nat.le_of_ble_eq_true rfl, Nat.le_of_ble_eq_true rfl⟩) preEq rfl rfl hl.1 rfl (lv_room (Nat.le_of_ble_eq_true rfl)) dX0_cell_50 ⟨Nat.le_of_ble_eq_true rfl, Nat.le_of_ble_eq_true rfl⟩) ?_
              refine gz_ifeqB (tgt := 68) hx hb dX0_cell_53 (by decide) (fun c_7 => ?_) (fun c_7 => ?_)
              · skip
                exact False.elim (by omega)
              · skip
                refine lv_iload_n hx hb dX0_cell_56 rfl (lv_at hl 2 rfl) ?_
                refine lv_aload_n hx hb dX0_cell_57 rfl (lv_at hl 0 rfl) ?_
                refine va_get (D := (dC, dI)) (ci := 0) (v := .int (nI cn)) (C := RX0) (T := TX0) (N := 9) hx hb hts hin0 hown hK hP 0 rfl rfl 7 (by decide) lk32 (fun _ h9 => h9) rfl dX0_cell_58 ?_
                refine lv_iconst (v := nI 1) hx hb dX0_cell_61 (by decide) ?_
                refine gz_isub (i := cn) (j := 1) hx hb dX0_cell_62 (by omega) ?_
                refine gz_icmp_eq (tgt := 68) (za := y.toInt) (zb := ((cn - 1 : Nat) : Int)) hx hb dX0_cell_63 (by decide) rfl (nI_toInt (by omega)) (fun c_8 => ?_) (fun c_8 => ?_)
                · skip
                  exact False.elim (by omega)
                · skip
                  refine lv_iconst (v := (-1)) hx hb dX0_cell_66 (by decide) ?_
                  exact W.iret (v := (-1)) hx hb hr (fun t ht hW => ⟨rfl, ht⟩) (fun q h => absurd h List.not_mem_nil) dX0_cell_67
            · skip
              refine lv_iload hx hb dX0_cell_39 (lv_at hl 4 rfl) ?_
              refine gz_callR (W.runS (As := [.int (v)]) (rest := []) ⟨hx, hb, hml, hown, hts⟩ (cG_isVariable l v) (va_cwS 1 hts gX0_cell_X0_isVariable rfl rfl rfl (by decide +kernel) ⟨Nat.le_of_ble_eq_true rfl, Nat.le_of_ble_eq_true rfl⟩) preEq rfl rfl hl.1 rfl (lv_room (Nat.le_of_ble_eq_true rfl)) dX0_cell_41 ⟨Nat.le_of_ble_eq_true rfl, Nat.le_of_ble_eq_true rfl⟩) ?_
              refine gz_ifneB (tgt := 49) hx hb dX0_cell_44 (by decide) (fun c_9 => ?_) (fun c_9 => ?_)
              · skip
                refine lv_iload_n hx hb dX0_cell_49 rfl (lv_at hl 3 rfl) ?_
                refine gz_callR (W.runS (As := [.int (k)]) (rest := []) ⟨hx, hb, hml, hown, hts⟩ (cG_isCoil l k) (va_cwS 1 hts gX0_cell_X0_isCoil rfl rfl rfl (by decide +kernel) ⟨Nat.le_of_ble_eq_true rfl, Nat.le_of_ble_eq_true rfl⟩) preEq rfl rfl hl.1 rfl (lv_room (Nat.le_of_ble_eq_true rfl)) dX0_cell_50 ⟨Nat.le_of_ble_eq_true rfl, Nat.le_of_ble_eq_true rfl⟩) ?_
                refine gz_ifeqB (tgt := 68) hx hb dX0_cell_53 (by decide) (fun c_10 => ?_) (fun c_10 => ?_)
                · skip
                  exact False.elim (by omega)
                · skip
                  refine lv_iload_n hx hb dX0_cell_56 rfl (lv_at hl 2 rfl) ?_
                  refine lv_aload_n hx hb dX0_cell_57 rfl (lv_at hl 0 rfl) ?_
                  refine va_get (D := (dC, dI)) (ci := 0) (v := .int (nI cn)) (C := RX0) (T := TX0) (N := 9) hx hb hts hin0 hown hK hP 0 rfl rfl 7 (by decide) lk32 (fun _ h9 => h9) rfl dX0_cell_58 ?_
                  refine lv_iconst (v := nI 1) hx hb dX0_cell_61 (by decide) ?_
                  refine gz_isub (i := cn) (j := 1) hx hb dX0_cell_62 (by omega) ?_
                  refine gz_icmp_eq (tgt := 68) (za := y.toInt) (zb := ((cn - 1 : Nat) : Int)) hx hb dX0_cell_63 (by decide) rfl (nI_toInt (by omega)) (fun c_11 => ?_) (fun c_11 => ?_)
                  · skip
                    exact False.elim (by omega)
                  · skip
                    refine lv_iconst (v := (-1)) hx hb dX0_cell_66 (by decide) ?_
                    exact W.iret (v := (-1)) hx hb hr (fun t ht hW => ⟨rfl, ht⟩) (fun q h => absurd h List.not_mem_nil) dX0_cell_67
              · skip
                refine lv_iconst (v := (-1)) hx hb dX0_cell_47 (by decide) ?_
                exact W.iret (v := (-1)) hx hb hr (fun t ht hW => ⟨rfl, ht⟩) (fun q h => absurd h List.not_mem_nil) dX0_cell_48
          · skip
            refine lv_iconst (v := (-1)) hx hb dX0_cell_30 (by decide) ?_
            exact W.iret (v := (-1)) hx hb hr (fun t ht hW => ⟨rfl, ht⟩) (fun q h => absurd h List.not_mem_nil) dX0_cell_31
set_option maxHeartbeats 4000000 in
set_option maxRecDepth 100000 in
theorem cG_power (l : Launch) (dC : Nat → ClassId) (dI : Nat → Nat → Nat) (cA cZ : ClassId) (h qk qc qs ql qp qv : Nat) (fk fc fs fl fp fv : Nat → Int32) (rn cn : Nat) (sc : Int32) (i j : Nat) (hrn : 1 ≤ rn ∧ rn ≤ 12) (hcn : 1 ≤ cn ∧ cn ≤ 12) (hi : i < rn) (hj : j ≤ cn) (hsc : ¬ sc = nI 0) (hk6 : j < cn ∨ (fk (i * 12 + (cn - 1))).toInt < 6) : Met l yX0_power wsX0_power ({ frames := 1, cells := 0, slots := 0, locals := 21 }) (gPr (dC, dI) vwCl [(cA, .int), (cZ, .boolean)] [.ref h, .int (nI i), .int (nI j)] (gw cA h qk qc qs ql qp qv fk fc fs fl fp fv (nI rn) (nI cn) sc)) (QcRead (fp (i * 13 + j))) 0 0 (fun _ => False) := by
  refine Met.ofW (cc := cX0_power) (maxL := 3) (ret := (some .int)) (by decide) rfl ?_
  intro p e s m args below meth c s₁ B hml hv
  obtain ⟨rfl, hP, hK⟩ := hv
  have hx := B.exec
  have hb := B.bytes
  have hr := B.returns
  have hts := atoms_spec (ws := wsX0_power) B.pre
  have hown : s.vm.findClass RX0 = some m.cls := findClass_of_methodNamed B.named
  have hlocks := B.notSynchronized
  have hin0 : ∀ w ∈ u_ws RX0 TX0 9, w ∈ wsX0_power := by decide +kernel
  have lk35 := hts (.fieldLink RX0 35 "LadderGrid" "scanned" "Z") (by decide +kernel)
  have lk32 := hts (.fieldLink RX0 32 "LadderGrid" "columns" "I") (by decide +kernel)
  have lk9 := hts (.fieldLink RX0 9 "LadderGrid" "kinds" "[I") (by decide +kernel)
  have lk22 := hts (.fieldLink RX0 22 "LadderGrid" "powered" "[I") (by decide +kernel)
  have hl := lv_entry ([.ref h, .int (nI i), .int (nI j)]) (n := 3) (Nat.le_of_ble_eq_true rfl)
  rw [lg_entry_eq]
  generalize (lg_sl ([.ref h, .int (nI i), .int (nI j)]) ++ List.replicate (3 - (lg_sl ([.ref h, .int (nI i), .int (nI j)])).length) Slot.unset).toArray = ls at hl ⊢
  have hl : lv_has ls 3 [(0, .ref h), (1, .int (nI i)), (2, .int (nI j))] := hl
  have zi := nI_toInt (n := i) (by omega)
  have zj := nI_toInt (n := j) (by omega)
  refine lv_aload_n hx hb dX0_power_0 rfl (lv_at hl 0 rfl) ?_
  refine lv_iload_n hx hb dX0_power_1 rfl (lv_at hl 1 rfl) ?_
  refine gz_callR (W.runV (As := [.int (nI i)]) (rest := []) ⟨hx, hb, hml, hown, hts⟩ (cG_isRow l dC dI cA cZ h qk qc qs ql qp qv fk fc fs fl fp fv rn cn sc (nI i) hrn.2 hcn.2) (cwV 1 hts gX0_power_X0_isRow rfl rfl rfl (by decide +kernel) ⟨Nat.le_of_ble_eq_true rfl, Nat.le_of_ble_eq_true rfl⟩) (gz_preV (q := (RX0, TX0, 9)) (ci := 0) hK hP [0, 1, 2, 3, 4, 5, 6] rfl rfl rfl) rfl rfl hl.1 rfl (lv_room (Nat.le_of_ble_eq_true rfl)) dX0_power_2 ⟨Nat.le_of_ble_eq_true rfl, Nat.le_of_ble_eq_true rfl⟩) ?_
  refine gz_ifeqB (tgt := 23) hx hb dX0_power_5 (by decide) (fun c_1 => False.elim (by omega)) (fun c_1 => ?_)
  refine lv_aload_n hx hb dX0_power_8 rfl (lv_at hl 0 rfl) ?_
  refine lv_iload_n hx hb dX0_power_9 rfl (lv_at hl 2 rfl) ?_
  refine gz_callR (W.runV (As := [.int (nI j)]) (rest := []) ⟨hx, hb, hml, hown, hts⟩ (cG_isLine l dC dI cA cZ h qk qc qs ql qp qv fk fc fs fl fp fv rn cn sc (nI j) hrn.2 hcn.2) (cwV 1 hts gX0_power_X0_isLine rfl rfl rfl (by decide +kernel) ⟨Nat.le_of_ble_eq_true rfl, Nat.le_of_ble_eq_true rfl⟩) (gz_preV (q := (RX0, TX0, 9)) (ci := 0) hK hP [0, 1, 2, 3, 4, 5, 6] rfl rfl rfl) rfl rfl hl.1 rfl (lv_room (Nat.le_of_ble_eq_true rfl)) dX0_power_10 ⟨Nat.le_of_ble_eq_true rfl, Nat.le_of_ble_eq_true rfl⟩) ?_
  refine gz_ifeqB (tgt := 23) hx hb dX0_power_13 (by decide) (fun c_2 => False.elim (by omega)) (fun c_2 => ?_)
  refine lv_aload_n hx hb dX0_power_16 rfl (lv_at hl 0 rfl) ?_
  refine va_get (D := (dC, dI)) (ci := 0) (v := .int (sc)) (C := RX0) (T := TX0) (N := 9) hx hb hts hin0 hown hK hP 0 rfl rfl 8 (by decide) lk35 (fun _ h9 => h9) rfl dX0_power_17 ?_
  refine lv_if_ne (tgt := 25) hx hb dX0_power_20 (by decide) (fun c_3 => ?_) (fun c_3 => False.elim (hsc c_3))
  refine lv_iload_n hx hb dX0_power_25 rfl (lv_at hl 2 rfl) ?_
  refine lv_aload_n hx hb dX0_power_26 rfl (lv_at hl 0 rfl) ?_
  refine va_get (D := (dC, dI)) (ci := 0) (v := .int (nI cn)) (C := RX0) (T := TX0) (N := 9) hx hb hts hin0 hown hK hP 0 rfl rfl 7 (by decide) lk32 (fun _ h9 => h9) rfl dX0_power_27 ?_
  refine gz_icmp_ne (tgt := 56) (za := ((j : Nat) : Int)) (zb := ((cn : Nat) : Int)) hx hb dX0_power_30 (by decide) (nI_toInt (by omega)) (nI_toInt (by omega)) (fun c_4 => ?_) (fun c_4 => ?_)
  · skip
    refine lv_aload_n hx hb dX0_power_56 rfl (lv_at hl 0 rfl) ?_
    refine va_get (D := (dC, dI)) (ci := 0) (v := .ref qp) (C := RX0) (T := TX0) (N := 9) hx hb hts hin0 hown hK hP 0 rfl rfl 4 (by decide) lk22 (fun _ h9 => h9) rfl dX0_power_57 ?_
    refine lv_iload_n hx hb dX0_power_60 rfl (lv_at hl 1 rfl) ?_
    refine lv_iload_n hx hb dX0_power_61 rfl (lv_at hl 2 rfl) ?_
    refine gz_callR (W.runS (As := [.int (nI i), .int (nI j)]) (rest := [.ref qp]) ⟨hx, hb, hml, hown, hts⟩ (cG_pointAt l i j) (va_cwS 2 hts gX0_power_X0_pointAt rfl rfl rfl (by decide +kernel) ⟨Nat.le_of_ble_eq_true rfl, Nat.le_of_ble_eq_true rfl⟩) preEq rfl rfl hl.1 rfl (lv_room (Nat.le_of_ble_eq_true rfl)) dX0_power_62 ⟨Nat.le_of_ble_eq_true rfl, Nat.le_of_ble_eq_true rfl⟩) ?_
    refine gz_iald (k := i * 13 + j) hx hb hK hP 5 0 rfl rfl (by omega) (by omega) dX0_power_65 ?_
    exact W.iret (v := fp (i * 13 + j)) hx hb hr (fun t ht hW => ⟨rfl, ht⟩) (fun q h => absurd h List.not_mem_nil) dX0_power_66
  · skip
    refine lv_aload_n hx hb dX0_power_33 rfl (lv_at hl 0 rfl) ?_
    refine va_get (D := (dC, dI)) (ci := 0) (v := .ref qk) (C := RX0) (T := TX0) (N := 9) hx hb hts hin0 hown hK hP 0 rfl rfl 0 (by decide) lk9 (fun _ h9 => h9) rfl dX0_power_34 ?_
    refine lv_iload_n hx hb dX0_power_37 rfl (lv_at hl 1 rfl) ?_
    refine lv_aload_n hx hb dX0_power_38 rfl (lv_at hl 0 rfl) ?_
    refine va_get (D := (dC, dI)) (ci := 0) (v := .int (nI cn)) (C := RX0) (T := TX0) (N := 9) hx hb hts hin0 hown hK hP 0 rfl rfl 7 (by decide) lk32 (fun _ h9 => h9) rfl dX0_power_39 ?_
    refine lv_iconst (v := nI 1) hx hb dX0_power_42 (by decide) ?_
    refine gz_isub (i := cn) (j := 1) hx hb dX0_power_43 (by omega) ?_
    refine gz_callR (W.runS (As := [.int (nI i), .int (nI (cn - 1))]) (rest := [.ref qk]) ⟨hx, hb, hml, hown, hts⟩ (cG_cellAt l i (cn - 1)) (va_cwS 2 hts gX0_power_X0_cellAt rfl rfl rfl (by decide +kernel) ⟨Nat.le_of_ble_eq_true rfl, Nat.le_of_ble_eq_true rfl⟩) preEq rfl rfl hl.1 rfl (lv_room (Nat.le_of_ble_eq_true rfl)) dX0_power_44 ⟨Nat.le_of_ble_eq_true rfl, Nat.le_of_ble_eq_true rfl⟩) ?_
    refine gz_iald (k := i * 12 + (cn - 1)) hx hb hK hP 1 0 rfl rfl (by omega) (by omega) dX0_power_47 ?_
    refine gz_callR (W.runS (As := [.int (fk (i * 12 + (cn - 1)))]) (rest := []) ⟨hx, hb, hml, hown, hts⟩ (cG_isCoil l (fk (i * 12 + (cn - 1)))) (va_cwS 1 hts gX0_power_X0_isCoil rfl rfl rfl (by decide +kernel) ⟨Nat.le_of_ble_eq_true rfl, Nat.le_of_ble_eq_true rfl⟩) preEq rfl rfl hl.1 rfl (lv_room (Nat.le_of_ble_eq_true rfl)) dX0_power_48 ⟨Nat.le_of_ble_eq_true rfl, Nat.le_of_ble_eq_true rfl⟩) ?_
    refine gz_ifeqB (tgt := 56) hx hb dX0_power_51 (by decide) (fun c_5 => ?_) (fun c_5 => False.elim (by omega))
    refine lv_aload_n hx hb dX0_power_56 rfl (lv_at hl 0 rfl) ?_
    refine va_get (D := (dC, dI)) (ci := 0) (v := .ref qp) (C := RX0) (T := TX0) (N := 9) hx hb hts hin0 hown hK hP 0 rfl rfl 4 (by decide) lk22 (fun _ h9 => h9) rfl dX0_power_57 ?_
    refine lv_iload_n hx hb dX0_power_60 rfl (lv_at hl 1 rfl) ?_
    refine lv_iload_n hx hb dX0_power_61 rfl (lv_at hl 2 rfl) ?_
    refine gz_callR (W.runS (As := [.int (nI i), .int (nI j)]) (rest := [.ref qp]) ⟨hx, hb, hml, hown, hts⟩ (cG_pointAt l i j) (va_cwS 2 hts gX0_power_X0_pointAt rfl rfl rfl (by decide +kernel) ⟨Nat.le_of_ble_eq_true rfl, Nat.le_of_ble_eq_true rfl⟩) preEq rfl rfl hl.1 rfl (lv_room (Nat.le_of_ble_eq_true rfl)) dX0_power_62 ⟨Nat.le_of_ble_eq_true rfl, Nat.le_of_ble_eq_true rfl⟩) ?_
    refine gz_iald (k := i * 13 + j) hx hb hK hP 5 0 rfl rfl (by omega) (by omega) dX0_power_65 ?_
    exact W.iret (v := fp (i * 13 + j)) hx hb hr (fun t ht hW => ⟨rfl, ht⟩) (fun q h => absurd h List.not_mem_nil) dX0_power_66
set_option maxHeartbeats 4000000 in
set_option maxRecDepth 100000 in
theorem cG_power_bad (l : Launch) (dC : Nat → ClassId) (dI : Nat → Nat → Nat) (cA cZ : ClassId) (h qk qc qs ql qp qv : Nat) (fk fc fs fl fp fv : Nat → Int32) (rn cn : Nat) (sc : Int32) (x y : Int32) (hrn : 1 ≤ rn ∧ rn ≤ 12) (hcn : 1 ≤ cn ∧ cn ≤ 12) (hx0 : ¬ (0 ≤ x.toInt ∧ x.toInt < (rn : Int)) ∨ ¬ (0 ≤ y.toInt ∧ y.toInt ≤ (cn : Int)) ∨ sc = nI 0) : Met l yX0_power wsX0_power ({ frames := 1, cells := 0, slots := 0, locals := 21 }) (gPr (dC, dI) vwCl [(cA, .int), (cZ, .boolean)] [.ref h, .int x, .int y] (gw cA h qk qc qs ql qp qv fk fc fs fl fp fv (nI rn) (nI cn) sc)) (QcRead (-1)) 0 0 (fun _ => False) := by
  refine Met.ofW (cc := cX0_power) (maxL := 3) (ret := (some .int)) (by decide) rfl ?_
  intro p e s m args below meth c s₁ B hml hv
  obtain ⟨rfl, hP, hK⟩ := hv
  have hx := B.exec
  have hb := B.bytes
  have hr := B.returns
  have hts := atoms_spec (ws := wsX0_power) B.pre
  have hown : s.vm.findClass RX0 = some m.cls := findClass_of_methodNamed B.named
  have hlocks := B.notSynchronized
  have hin0 : ∀ w ∈ u_ws RX0 TX0 9, w ∈ wsX0_power := by decide +kernel
  have lk35 := hts (.fieldLink RX0 35 "LadderGrid" "scanned" "Z") (by decide +kernel)
  have lk32 := hts (.fieldLink RX0 32 "LadderGrid" "columns" "I") (by decide +kernel)
  have lk9 := hts (.fieldLink RX0 9 "LadderGrid" "kinds" "[I") (by decide +kernel)
  have lk22 := hts (.fieldLink RX0 22 "LadderGrid" "powered" "[I") (by decide +kernel)
  have hl := lv_entry ([.ref h, .int x, .int y]) (n := 3) (Nat.le_of_ble_eq_true rfl)
  rw [lg_entry_eq]
  generalize (lg_sl ([.ref h, .int x, .int y]) ++ List.replicate (3 - (lg_sl ([.ref h, .int x, .int y])).length) Slot.unset).toArray = ls at hl ⊢
  have hl : lv_has ls 3 [(0, .ref h), (1, .int (x)), (2, .int (y))] := hl
  refine lv_aload_n hx hb dX0_power_0 rfl (lv_at hl 0 rfl) ?_
  refine lv_iload_n hx hb dX0_power_1 rfl (lv_at hl 1 rfl) ?_
  refine gz_callR (W.runV (As := [.int (x)]) (rest := []) ⟨hx, hb, hml, hown, hts⟩ (cG_isRow l dC dI cA cZ h qk qc qs ql qp qv fk fc fs fl fp fv rn cn sc x hrn.2 hcn.2) (cwV 1 hts gX0_power_X0_isRow rfl rfl rfl (by decide +kernel) ⟨Nat.le_of_ble_eq_true rfl, Nat.le_of_ble_eq_true rfl⟩) (gz_preV (q := (RX0, TX0, 9)) (ci := 0) hK hP [0, 1, 2, 3, 4, 5, 6] rfl rfl rfl) rfl rfl hl.1 rfl (lv_room (Nat.le_of_ble_eq_true rfl)) dX0_power_2 ⟨Nat.le_of_ble_eq_true rfl, Nat.le_of_ble_eq_true rfl⟩) ?_
  refine gz_ifeqB (tgt := 23) hx hb dX0_power_5 (by decide) (fun c_1 => ?_) (fun c_1 => ?_)
  · skip
    refine lv_iconst (v := (-1)) hx hb dX0_power_23 (by decide) ?_
    exact W.iret (v := (-1)) hx hb hr (fun t ht hW => ⟨rfl, ht⟩) (fun q h => absurd h List.not_mem_nil) dX0_power_24
  · skip
    refine lv_aload_n hx hb dX0_power_8 rfl (lv_at hl 0 rfl) ?_
    refine lv_iload_n hx hb dX0_power_9 rfl (lv_at hl 2 rfl) ?_
    refine gz_callR (W.runV (As := [.int (y)]) (rest := []) ⟨hx, hb, hml, hown, hts⟩ (cG_isLine l dC dI cA cZ h qk qc qs ql qp qv fk fc fs fl fp fv rn cn sc y hrn.2 hcn.2) (cwV 1 hts gX0_power_X0_isLine rfl rfl rfl (by decide +kernel) ⟨Nat.le_of_ble_eq_true rfl, Nat.le_of_ble_eq_true rfl⟩) (gz_preV (q := (RX0, TX0, 9)) (ci := 0) hK hP [0, 1, 2, 3, 4, 5, 6] rfl rfl rfl) rfl rfl hl.1 rfl (lv_room (Nat.le_of_ble_eq_true rfl)) dX0_power_10 ⟨Nat.le_of_ble_eq_true rfl, Nat.le_of_ble_eq_true rfl⟩) ?_
    refine gz_ifeqB (tgt := 23) hx hb dX0_power_13 (by decide) (fun c_2 => ?_) (fun c_2 => ?_)
    · skip
      refine lv_iconst (v := (-1)) hx hb dX0_power_23 (by decide) ?_
      exact W.iret (v := (-1)) hx hb hr (fun t ht hW => ⟨rfl, ht⟩) (fun q h => absurd h List.not_mem_nil) dX0_power_24
    · skip
      refine lv_aload_n hx hb dX0_power_16 rfl (lv_at hl 0 rfl) ?_
      refine va_get (D := (dC, dI)) (ci := 0) (v := .int (sc)) (C := RX0) (T := TX0) (N := 9) hx hb hts hin0 hown hK hP 0 rfl rfl 8 (by decide) lk35 (fun _ h9 => h9) rfl dX0_power_17 ?_
      refine lv_if_ne (tgt := 25) hx hb dX0_power_20 (by decide) (fun c_3 => False.elim (by rcases hx0 with hq | hq | hq; omega; omega; exact c_3 hq)) (fun c_3 => ?_)
      refine lv_iconst (v := (-1)) hx hb dX0_power_23 (by decide) ?_
      exact W.iret (v := (-1)) hx hb hr (fun t ht hW => ⟨rfl, ht⟩) (fun q h => absurd h List.not_mem_nil) dX0_power_24
set_option maxHeartbeats 4000000 in
set_option maxRecDepth 100000 in
theorem cG_power_coil (l : Launch) (dC : Nat → ClassId) (dI : Nat → Nat → Nat) (cA cZ : ClassId) (h qk qc qs ql qp qv : Nat) (fk fc fs fl fp fv : Nat → Int32) (rn cn : Nat) (sc : Int32) (i : Nat) (hrn : 1 ≤ rn ∧ rn ≤ 12) (hcn : 1 ≤ cn ∧ cn ≤ 12) (hi : i < rn) (hsc : ¬ sc = nI 0) (hk6 : 6 ≤ (fk (i * 12 + (cn - 1))).toInt) : Met l yX0_power wsX0_power ({ frames := 1, cells := 0, slots := 0, locals := 21 }) (gPr (dC, dI) vwCl [(cA, .int), (cZ, .boolean)] [.ref h, .int (nI i), .int (nI cn)] (gw cA h qk qc qs ql qp qv fk fc fs fl fp fv (nI rn) (nI cn) sc)) (QcRead (-1)) 0 0 (fun _ => False) := by
  refine Met.ofW (cc := cX0_power) (maxL := 3) (ret := (some .int)) (by decide) rfl ?_
  intro p e s m args below meth c s₁ B hml hv
  obtain ⟨rfl, hP, hK⟩ := hv
  have hx := B.exec
  have hb := B.bytes
  have hr := B.returns
  have hts := atoms_spec (ws := wsX0_power) B.pre
  have hown : s.vm.findClass RX0 = some m.cls := findClass_of_methodNamed B.named
  have hlocks := B.notSynchronized
  have hin0 : ∀ w ∈ u_ws RX0 TX0 9, w ∈ wsX0_power := by decide +kernel
  have lk35 := hts (.fieldLink RX0 35 "LadderGrid" "scanned" "Z") (by decide +kernel)
  have lk32 := hts (.fieldLink RX0 32 "LadderGrid" "columns" "I") (by decide +kernel)
  have lk9 := hts (.fieldLink RX0 9 "LadderGrid" "kinds" "[I") (by decide +kernel)
  have lk22 := hts (.fieldLink RX0 22 "LadderGrid" "powered" "[I") (by decide +kernel)
  have hl := lv_entry ([.ref h, .int (nI i), .int (nI cn)]) (n := 3) (Nat.le_of_ble_eq_true rfl)
  rw [lg_entry_eq]
  generalize (lg_sl ([.ref h, .int (nI i), .int (nI cn)]) ++ List.replicate (3 - (lg_sl ([.ref h, .int (nI i), .int (nI cn)])).length) Slot.unset).toArray = ls at hl ⊢
  have hl : lv_has ls 3 [(0, .ref h), (1, .int (nI i)), (2, .int (nI cn))] := hl
  have zi := nI_toInt (n := i) (by omega)
  have zj := nI_toInt (n := cn) (by omega)
  refine lv_aload_n hx hb dX0_power_0 rfl (lv_at hl 0 rfl) ?_
  refine lv_iload_n hx hb dX0_power_1 rfl (lv_at hl 1 rfl) ?_
  refine gz_callR (W.runV (As := [.int (nI i)]) (rest := []) ⟨hx, hb, hml, hown, hts⟩ (cG_isRow l dC dI cA cZ h qk qc qs ql qp qv fk fc fs fl fp fv rn cn sc (nI i) hrn.2 hcn.2) (cwV 1 hts gX0_power_X0_isRow rfl rfl rfl (by decide +kernel) ⟨Nat.le_of_ble_eq_true rfl, Nat.le_of_ble_eq_true rfl⟩) (gz_preV (q := (RX0, TX0, 9)) (ci := 0) hK hP [0, 1, 2, 3, 4, 5, 6] rfl rfl rfl) rfl rfl hl.1 rfl (lv_room (Nat.le_of_ble_eq_true rfl)) dX0_power_2 ⟨Nat.le_of_ble_eq_true rfl, Nat.le_of_ble_eq_true rfl⟩) ?_
  refine gz_ifeqB (tgt := 23) hx hb dX0_power_5 (by decide) (fun c_1 => False.elim (by omega)) (fun c_1 => ?_)
  refine lv_aload_n hx hb dX0_power_8 rfl (lv_at hl 0 rfl) ?_
  refine lv_iload_n hx hb dX0_power_9 rfl (lv_at hl 2 rfl) ?_
  refine gz_callR (W.runV (As := [.int (nI cn)]) (rest := []) ⟨hx, hb, hml, hown, hts⟩ (cG_isLine l dC dI cA cZ h qk qc qs ql qp qv fk fc fs fl fp fv rn cn sc (nI cn) hrn.2 hcn.2) (cwV 1 hts gX0_power_X0_isLine rfl rfl rfl (by decide +kernel) ⟨Nat.le_of_ble_eq_true rfl, Nat.le_of_ble_eq_true rfl⟩) (gz_preV (q := (RX0, TX0, 9)) (ci := 0) hK hP [0, 1, 2, 3, 4, 5, 6] rfl rfl rfl) rfl rfl hl.1 rfl (lv_room (Nat.le_of_ble_eq_true rfl)) dX0_power_10 ⟨Nat.le_of_ble_eq_true rfl, Nat.le_of_ble_eq_true rfl⟩) ?_
  refine gz_ifeqB (tgt := 23) hx hb dX0_power_13 (by decide) (fun c_2 => False.elim (by omega)) (fun c_2 => ?_)
  refine lv_aload_n hx hb dX0_power_16 rfl (lv_at hl 0 rfl) ?_
  refine va_get (D := (dC, dI)) (ci := 0) (v := .int (sc)) (C := RX0) (T := TX0) (N := 9) hx hb hts hin0 hown hK hP 0 rfl rfl 8 (by decide) lk35 (fun _ h9 => h9) rfl dX0_power_17 ?_
  refine lv_if_ne (tgt := 25) hx hb dX0_power_20 (by decide) (fun c_3 => ?_) (fun c_3 => False.elim (hsc c_3))
  refine lv_iload_n hx hb dX0_power_25 rfl (lv_at hl 2 rfl) ?_
  refine lv_aload_n hx hb dX0_power_26 rfl (lv_at hl 0 rfl) ?_
  refine va_get (D := (dC, dI)) (ci := 0) (v := .int (nI cn)) (C := RX0) (T := TX0) (N := 9) hx hb hts hin0 hown hK hP 0 rfl rfl 7 (by decide) lk32 (fun _ h9 => h9) rfl dX0_power_27 ?_
  refine gz_icmp_ne (tgt := 56) (za := ((cn : Nat) : Int)) (zb := ((cn : Nat) : Int)) hx hb dX0_power_30 (by decide) (nI_toInt (by omega)) (nI_toInt (by omega)) (fun c_4 => False.elim (by omega)) (fun c_4 => ?_)
  refine lv_aload_n hx hb dX0_power_33 rfl (lv_at hl 0 rfl) ?_
  refine va_get (D := (dC, dI)) (ci := 0) (v := .ref qk) (C := RX0) (T := TX0) (N := 9) hx hb hts hin0 hown hK hP 0 rfl rfl 0 (by decide) lk9 (fun _ h9 => h9) rfl dX0_power_34 ?_
  refine lv_iload_n hx hb dX0_power_37 rfl (lv_at hl 1 rfl) ?_
  refine lv_aload_n hx hb dX0_power_38 rfl (lv_at hl 0 rfl) ?_
  refine va_get (D := (dC, dI)) (ci := 0) (v := .int (nI cn)) (C := RX0) (T := TX0) (N := 9) hx hb hts hin0 hown hK hP 0 rfl rfl 7 (by decide) lk32 (fun _ h9 => h9) rfl dX0_power_39 ?_
  refine lv_iconst (v := nI 1) hx hb dX0_power_42 (by decide) ?_
  refine gz_isub (i := cn) (j := 1) hx hb dX0_power_43 (by omega) ?_
  refine gz_callR (W.runS (As := [.int (nI i), .int (nI (cn - 1))]) (rest := [.ref qk]) ⟨hx, hb, hml, hown, hts⟩ (cG_cellAt l i (cn - 1)) (va_cwS 2 hts gX0_power_X0_cellAt rfl rfl rfl (by decide +kernel) ⟨Nat.le_of_ble_eq_true rfl, Nat.le_of_ble_eq_true rfl⟩) preEq rfl rfl hl.1 rfl (lv_room (Nat.le_of_ble_eq_true rfl)) dX0_power_44 ⟨Nat.le_of_ble_eq_true rfl, Nat.le_of_ble_eq_true rfl⟩) ?_
  refine gz_iald (k := i * 12 + (cn - 1)) hx hb hK hP 1 0 rfl rfl (by omega) (by omega) dX0_power_47 ?_
  refine gz_callR (W.runS (As := [.int (fk (i * 12 + (cn - 1)))]) (rest := []) ⟨hx, hb, hml, hown, hts⟩ (cG_isCoil l (fk (i * 12 + (cn - 1)))) (va_cwS 1 hts gX0_power_X0_isCoil rfl rfl rfl (by decide +kernel) ⟨Nat.le_of_ble_eq_true rfl, Nat.le_of_ble_eq_true rfl⟩) preEq rfl rfl hl.1 rfl (lv_room (Nat.le_of_ble_eq_true rfl)) dX0_power_48 ⟨Nat.le_of_ble_eq_true rfl, Nat.le_of_ble_eq_true rfl⟩) ?_
  refine gz_ifeqB (tgt := 56) hx hb dX0_power_51 (by decide) (fun c_5 => False.elim (by omega)) (fun c_5 => ?_)
  refine lv_iconst (v := (-1)) hx hb dX0_power_54 (by decide) ?_
  exact W.iret (v := (-1)) hx hb hr (fun t ht hW => ⟨rfl, ht⟩) (fun q h => absurd h List.not_mem_nil) dX0_power_55
set_option maxHeartbeats 4000000 in
set_option maxRecDepth 100000 in
theorem cG_groups_bad (l : Launch) (dC : Nat → ClassId) (dI : Nat → Nat → Nat) (cA cZ : ClassId) (h qk qc qs ql qp qv : Nat) (fk fc fs fl fp fv : Nat → Int32) (rn cn : Nat) (sc : Int32) (x : Int32) (hrn : 1 ≤ rn ∧ rn ≤ 12) (hcn : 1 ≤ cn ∧ cn ≤ 12) (hx0 : ¬ (0 ≤ x.toInt ∧ x.toInt ≤ (cn : Int))) : Met l yX0_groups wsX0_groups ({ frames := 1, cells := 0, slots := 0, locals := 21 }) (gPr (dC, dI) vwCl [(cA, .int), (cZ, .boolean)] [.ref h, .int x] (gw cA h qk qc qs ql qp qv fk fc fs fl fp fv (nI rn) (nI cn) sc)) (QcRead (-1)) 0 0 (fun _ => False) := by
  refine Met.ofW (cc := cX0_groups) (maxL := 4) (ret := (some .int)) (by decide) rfl ?_
  intro p e s m args below meth c s₁ B hml hv
  obtain ⟨rfl, hP, hK⟩ := hv
  have hx := B.exec
  have hb := B.bytes
  have hr := B.returns
  have hts := atoms_spec (ws := wsX0_groups) B.pre
  have hown : s.vm.findClass RX0 = some m.cls := findClass_of_methodNamed B.named
  have hlocks := B.notSynchronized
  have hin0 : ∀ w ∈ u_ws RX0 TX0 9, w ∈ wsX0_groups := by decide +kernel
  have lk28 := hts (.fieldLink RX0 28 "LadderGrid" "rows" "I") (by decide +kernel)
  have lk19 := hts (.fieldLink RX0 19 "LadderGrid" "links" "[I") (by decide +kernel)
  have hl := lv_entry ([.ref h, .int x]) (n := 4) (Nat.le_of_ble_eq_true rfl)
  rw [lg_entry_eq]
  generalize (lg_sl ([.ref h, .int x]) ++ List.replicate (4 - (lg_sl ([.ref h, .int x])).length) Slot.unset).toArray = ls at hl ⊢
  have hl : lv_has ls 4 [(0, .ref h), (1, .int (x))] := hl
  refine lv_aload_n hx hb dX0_groups_0 rfl (lv_at hl 0 rfl) ?_
  refine lv_iload_n hx hb dX0_groups_1 rfl (lv_at hl 1 rfl) ?_
  refine gz_callR (W.runV (As := [.int (x)]) (rest := []) ⟨hx, hb, hml, hown, hts⟩ (cG_isLine l dC dI cA cZ h qk qc qs ql qp qv fk fc fs fl fp fv rn cn sc x hrn.2 hcn.2) (cwV 1 hts gX0_groups_X0_isLine rfl rfl rfl (by decide +kernel) ⟨Nat.le_of_ble_eq_true rfl, Nat.le_of_ble_eq_true rfl⟩) (gz_preV (q := (RX0, TX0, 9)) (ci := 0) hK hP [0, 1, 2, 3, 4, 5, 6] rfl rfl rfl) rfl rfl hl.1 rfl (lv_room (Nat.le_of_ble_eq_true rfl)) dX0_groups_2 ⟨Nat.le_of_ble_eq_true rfl, Nat.le_of_ble_eq_true rfl⟩) ?_
  refine gz_ifneB (tgt := 10) hx hb dX0_groups_5 (by decide) (fun c_1 => False.elim (hx0 c_1)) (fun c_1 => ?_)
  refine lv_iconst (v := (-1)) hx hb dX0_groups_8 (by decide) ?_
  exact W.iret (v := (-1)) hx hb hr (fun t ht hW => ⟨rfl, ht⟩) (fun q h => absurd h List.not_mem_nil) dX0_groups_9
set_option maxHeartbeats 4000000 in
set_option maxRecDepth 100000 in
theorem cG_groups (l : Launch) (dC : Nat → ClassId) (dI : Nat → Nat → Nat) (cA cZ : ClassId) (h qk qc qs ql qp qv : Nat) (fk fc fs fl fp fv : Nat → Int32) (rn cn : Nat) (sc : Int32) (j : Nat) (hrn : 1 ≤ rn ∧ rn ≤ 12) (hcn : 1 ≤ cn ∧ cn ≤ 12) (hj : j ≤ cn) (hfl : ∀ k, k < 156 → fl k = nI 0 ∨ fl k = nI 1) : Met l yX0_groups wsX0_groups ({ frames := 1, cells := 0, slots := 0, locals := 21 }) (gPr (dC, dI) vwCl [(cA, .int), (cZ, .boolean)] [.ref h, .int (nI j)] (gw cA h qk qc qs ql qp qv fk fc fs fl fp fv (nI rn) (nI cn) sc)) (QcRead (nI (rn - gGr fl j rn))) 0 0 (fun _ => False) := by
  refine Met.ofW (cc := cX0_groups) (maxL := 4) (ret := (some .int)) (by decide) rfl ?_
  intro p e s m args below meth c s₁ B hml hv
  obtain ⟨rfl, hP, hK⟩ := hv
  have hx := B.exec
  have hb := B.bytes
  have hr := B.returns
  have hts := atoms_spec (ws := wsX0_groups) B.pre
  have hown : s.vm.findClass RX0 = some m.cls := findClass_of_methodNamed B.named
  have hlocks := B.notSynchronized
  have hin0 : ∀ w ∈ u_ws RX0 TX0 9, w ∈ wsX0_groups := by decide +kernel
  have lk28 := hts (.fieldLink RX0 28 "LadderGrid" "rows" "I") (by decide +kernel)
  have lk19 := hts (.fieldLink RX0 19 "LadderGrid" "links" "[I") (by decide +kernel)
  have hl := lv_entry ([.ref h, .int (nI j)]) (n := 4) (Nat.le_of_ble_eq_true rfl)
  rw [lg_entry_eq]
  generalize (lg_sl ([.ref h, .int (nI j)]) ++ List.replicate (4 - (lg_sl ([.ref h, .int (nI j)])).length) Slot.unset).toArray = ls at hl ⊢
  have hl : lv_has ls 4 [(0, .ref h), (1, .int (nI j))] := hl
  have zj := nI_toInt (n := j) (by omega)
  have loop : ∀ (n : Nat) (i : Nat), i + n = rn → ∀ (ls : Array Slot), lv_has ls 4 [(3, .int (nI i)), (2, .int (nI (rn - gGr fl j i))), (0, .ref h), (1, .int (nI j))] → W p l e (headSpec wsX0_groups ({ frames := 1, cells := 0, slots := 0, locals := 21 })).room s m ([.ref h, .int (nI j)] : List Value).toArray below meth c s.heap [] 0 0 (MQ below (QcRead (nI (rn - gGr fl j rn))) ([.ref h, .int (nI j)] : List Value).toArray s 0 0 (fun _ => False)) (F0 m 17 ls []) := by
    intro n
    induction n with
    | zero =>
      intro i hi ls hl
      refine lv_iload_n hx hb dX0_groups_17 rfl (lv_at hl 0 rfl) ?_
      refine lv_aload_n hx hb dX0_groups_18 rfl (lv_at hl 2 rfl) ?_
      refine va_get (D := (dC, dI)) (ci := 0) (v := .int (nI rn)) (C := RX0) (T := TX0) (N := 9) hx hb hts hin0 hown hK hP 0 rfl rfl 6 (by decide) lk28 (fun _ h9 => h9) rfl dX0_groups_19 ?_
      refine gz_icmp_ge (tgt := 44) (za := ((i : Nat) : Int)) (zb := ((rn : Nat) : Int)) hx hb dX0_groups_22 (by decide) (nI_toInt (by omega)) (nI_toInt (by omega)) (fun c_1 => ?_) (fun c_1 => False.elim (by omega))
      refine lv_iload_n hx hb dX0_groups_44 rfl (lv_at hl 1 rfl) ?_
      exact W.iret (v := nI (rn - gGr fl j i)) hx hb hr (fun t ht hW => ⟨(by rw [show i = rn by omega]), ht⟩) (fun q h => absurd h List.not_mem_nil) dX0_groups_45
    | succ n ih =>
      intro i hi ls hl
      refine lv_iload_n hx hb dX0_groups_17 rfl (lv_at hl 0 rfl) ?_
      refine lv_aload_n hx hb dX0_groups_18 rfl (lv_at hl 2 rfl) ?_
      refine va_get (D := (dC, dI)) (ci := 0) (v := .int (nI rn)) (C := RX0) (T := TX0) (N := 9) hx hb hts hin0 hown hK hP 0 rfl rfl 6 (by decide) lk28 (fun _ h9 => h9) rfl dX0_groups_19 ?_
      refine gz_icmp_ge (tgt := 44) (za := ((i : Nat) : Int)) (zb := ((rn : Nat) : Int)) hx hb dX0_groups_22 (by decide) (nI_toInt (by omega)) (nI_toInt (by omega)) (fun c_1 => False.elim (by omega)) (fun c_1 => ?_)
      refine lv_iload_n hx hb dX0_groups_25 rfl (lv_at hl 1 rfl) ?_
      refine lv_aload_n hx hb dX0_groups_26 rfl (lv_at hl 2 rfl) ?_
      refine va_get (D := (dC, dI)) (ci := 0) (v := .ref ql) (C := RX0) (T := TX0) (N := 9) hx hb hts hin0 hown hK hP 0 rfl rfl 3 (by decide) lk19 (fun _ h9 => h9) rfl dX0_groups_27 ?_
      refine lv_iload_n hx hb dX0_groups_30 rfl (lv_at hl 0 rfl) ?_
      refine lv_iload_n hx hb dX0_groups_31 rfl (lv_at hl 3 rfl) ?_
      refine gz_callR (W.runS (As := [.int (nI i), .int (nI j)]) (rest := [.ref ql, .int (nI (rn - gGr fl j i))]) ⟨hx, hb, hml, hown, hts⟩ (cG_pointAt l i j) (va_cwS 2 hts gX0_groups_X0_pointAt rfl rfl rfl (by decide +kernel) ⟨Nat.le_of_ble_eq_true rfl, Nat.le_of_ble_eq_true rfl⟩) preEq rfl rfl hl.1 rfl (lv_room (Nat.le_of_ble_eq_true rfl)) dX0_groups_32 ⟨Nat.le_of_ble_eq_true rfl, Nat.le_of_ble_eq_true rfl⟩) ?_
      refine gz_iald (k := i * 13 + j) hx hb hK hP 4 0 rfl rfl (by omega) (by omega) dX0_groups_35 ?_
      refine lv_isub hx hb dX0_groups_36 ?_
      refine gz_topI (y := nI (rn - gGr fl j (i + 1))) (gGr_sub (hfl _ (by omega)) (by omega)) ?_
      refine lv_istore_n (lv' := [(2, .int (nI (rn - gGr fl j (i + 1)))), (3, .int (nI i)), (0, .ref h), (1, .int (nI j))]) hx hb dX0_groups_37 rfl hl (by decide) rfl (fun ls hl => ?_)
      refine lv_iinc (v := nI (i + 1)) (lv' := [(3, .int (nI (i + 1))), (2, .int (nI (rn - gGr fl j (i + 1)))), (0, .ref h), (1, .int (nI j))]) hx hb dX0_groups_38 hl (k := 1) rfl (nI_1 _) (by decide) rfl (fun ls hl => ?_)
      refine lv_goto (tgt := 17) hx hb dX0_groups_41 (by decide) ?_
      exact ih (i + 1) (by omega) ls (lv_sub hl [0, 1, 2, 3] rfl)
  refine lv_aload_n hx hb dX0_groups_0 rfl (lv_at hl 0 rfl) ?_
  refine lv_iload_n hx hb dX0_groups_1 rfl (lv_at hl 1 rfl) ?_
  refine gz_callR (W.runV (As := [.int (nI j)]) (rest := []) ⟨hx, hb, hml, hown, hts⟩ (cG_isLine l dC dI cA cZ h qk qc qs ql qp qv fk fc fs fl fp fv rn cn sc (nI j) hrn.2 hcn.2) (cwV 1 hts gX0_groups_X0_isLine rfl rfl rfl (by decide +kernel) ⟨Nat.le_of_ble_eq_true rfl, Nat.le_of_ble_eq_true rfl⟩) (gz_preV (q := (RX0, TX0, 9)) (ci := 0) hK hP [0, 1, 2, 3, 4, 5, 6] rfl rfl rfl) rfl rfl hl.1 rfl (lv_room (Nat.le_of_ble_eq_true rfl)) dX0_groups_2 ⟨Nat.le_of_ble_eq_true rfl, Nat.le_of_ble_eq_true rfl⟩) ?_
  refine gz_ifneB (tgt := 10) hx hb dX0_groups_5 (by decide) (fun c_1 => ?_) (fun c_1 => False.elim (c_1 (by omega)))
  refine lv_aload_n hx hb dX0_groups_10 rfl (lv_at hl 0 rfl) ?_
  refine va_get (D := (dC, dI)) (ci := 0) (v := .int (nI rn)) (C := RX0) (T := TX0) (N := 9) hx hb hts hin0 hown hK hP 0 rfl rfl 6 (by decide) lk28 (fun _ h9 => h9) rfl dX0_groups_11 ?_
  refine lv_istore_n (lv' := [(2, .int (nI rn)), (0, .ref h), (1, .int (nI j))]) hx hb dX0_groups_14 rfl hl (by decide) rfl (fun ls hl => ?_)
  refine lv_iconst (v := nI 0) hx hb dX0_groups_15 (by decide) ?_
  refine lv_istore_n (lv' := [(3, .int (nI 0)), (2, .int (nI rn)), (0, .ref h), (1, .int (nI j))]) hx hb dX0_groups_16 rfl hl (by decide) rfl (fun ls hl => ?_)
  exact loop rn 0 (by omega) ls (lv_sub hl [0, 1, 2, 3] rfl)
end
section
set_option maxHeartbeats 4000000 in
set_option maxRecDepth 100000 in
theorem cG_lineSteps (l : Launch) (dC : Nat → ClassId) (dI : Nat → Nat → Nat) (tK : Nat) (cA cZ : ClassId) (h qk qc qs ql qp qv : Nat) (fk fc fs fl fp fv : Nat → Int32) (rn cn : Nat) (sc : Int32) (ln : Nat) (hrn : 1 ≤ rn ∧ rn ≤ 12) (hcn : 1 ≤ cn ∧ cn ≤ 12) (hln : 1 ≤ ln ∧ ln ≤ cn) (hfl : ∀ k, k < 156 → fl k = nI 0 ∨ fl k = nI 1) (hkI : ∀ k, k < 144 → vp_in (fk k) 10) : Met l yX0_lineSteps wsX0_lineSteps ({ frames := 1, cells := 0, slots := 0, locals := 21 }) (gPk (dC, dI) vwCl [(cA, .int), (cZ, .boolean)] tK [.ref h, .int (nI ln)] (gw cA h qk qc qs ql qp qv fk fc fs fl fp fv (nI rn) (nI cn) sc)) (QcRead (nI (gLs fk fl ln rn).1)) 0 0 (fun _ => False) := by
  refine Met.ofW (cc := cX0_lineSteps) (maxL := 7) (ret := (some .int)) (by decide) rfl ?_
  intro p e s m args below meth c s₁ B hml hv
  obtain ⟨rfl, hP, hK, hZ, hT⟩ := hv
  have hS0 : va_S (fun _ => False) s.heap s.heap [] := va_S.rf
  have hx := B.exec
  have hb := B.bytes
  have hr := B.returns
  have hts := atoms_spec (ws := wsX0_lineSteps) B.pre
  have hown : s.vm.findClass RX0 = some m.cls := findClass_of_methodNamed B.named
  have hlocks := B.notSynchronized
  have hin0 : ∀ w ∈ u_ws RX0 TX0 9, w ∈ wsX0_lineSteps := by decide +kernel
  have lk28 := hts (.fieldLink RX0 28 "LadderGrid" "rows" "I") (by decide +kernel)
  have lk9 := hts (.fieldLink RX0 9 "LadderGrid" "kinds" "[I") (by decide +kernel)
  have lk94 := hts (.fieldLink RX0 94 "LadderGrid" "KIND_STEPS" "[I") (by decide +kernel)
  have lk19 := hts (.fieldLink RX0 19 "LadderGrid" "links" "[I") (by decide +kernel)
  have hl := lv_entry ([.ref h, .int (nI ln)]) (n := 7) (Nat.le_of_ble_eq_true rfl)
  rw [lg_entry_eq]
  generalize (lg_sl ([.ref h, .int (nI ln)]) ++ List.replicate (7 - (lg_sl ([.ref h, .int (nI ln)])).length) Slot.unset).toArray = ls at hl ⊢
  have hl : lv_has ls 7 [(0, .ref h), (1, .int (nI ln))] := hl
  have loop : ∀ (n : Nat) (i S T : Nat), i + n = rn → (S, T) = gLs fk fl ln i → ∀ (ls : Array Slot), lv_has ls 7 [(4, .int (nI i)), (3, .int (nI T)), (2, .int (nI S)), (0, .ref h), (1, .int (nI ln))] → W p l e (headSpec wsX0_lineSteps ({ frames := 1, cells := 0, slots := 0, locals := 21 })).room s m ([.ref h, .int (nI ln)] : List Value).toArray below meth c s.heap [] 0 0 (MQ below (QcRead (nI (gLs fk fl ln rn).1)) ([.ref h, .int (nI ln)] : List Value).toArray s 0 0 (fun _ => False)) (F0 m 7 ls []) := by
    intro n
    induction n with
    | zero =>
      intro i S T hi hST ls hl
      refine lv_iload hx hb dX0_lineSteps_7 (lv_at hl 0 rfl) ?_
      refine lv_aload_n hx hb dX0_lineSteps_9 rfl (lv_at hl 3 rfl) ?_
      refine va_get (D := (dC, dI)) (ci := 0) (v := .int (nI rn)) (C := RX0) (T := TX0) (N := 9) hx hb hts hin0 hown hK hP 0 rfl rfl 6 (by decide) lk28 (fun _ h9 => h9) rfl dX0_lineSteps_10 ?_
      refine gz_icmp_ge (tgt := 104) (za := ((i : Nat) : Int)) (zb := ((rn : Nat) : Int)) hx hb dX0_lineSteps_13 (by decide) (nI_toInt (by omega)) (nI_toInt (by omega)) (fun c_1 => ?_) (fun c_1 => False.elim (by omega))
      refine lv_iload_n hx hb dX0_lineSteps_104 rfl (lv_at hl 2 rfl) ?_
      exact W.iret (v := nI S) hx hb hr (fun t ht hW => ⟨(by rw [show rn = i by omega, ← hST]), ht⟩) (fun q h => absurd h List.not_mem_nil) dX0_lineSteps_105
    | succ n ih =>
      intro i S T hi hST ls hl
      have hTi : T ≤ i := by have := gLs_le fk fl ln i; rw [← hST] at this; exact this
      have hki : vp_in (fk (i * 12 + (ln - 1))) 10 := hkI _ (by omega)
      by_cases hco : 6 ≤ (fk (i * 12 + (ln - 1))).toInt
      · skip
        refine lv_iload hx hb dX0_lineSteps_7 (lv_at hl 0 rfl) ?_
        refine lv_aload_n hx hb dX0_lineSteps_9 rfl (lv_at hl 3 rfl) ?_
        refine va_get (D := (dC, dI)) (ci := 0) (v := .int (nI rn)) (C := RX0) (T := TX0) (N := 9) hx hb hts hin0 hown hK hP 0 rfl rfl 6 (by decide) lk28 (fun _ h9 => h9) rfl dX0_lineSteps_10 ?_
        refine gz_icmp_ge (tgt := 104) (za := ((i : Nat) : Int)) (zb := ((rn : Nat) : Int)) hx hb dX0_lineSteps_13 (by decide) (nI_toInt (by omega)) (nI_toInt (by omega)) (fun c_1 => False.elim (by omega)) (fun c_1 => ?_)
        refine lv_aload_n hx hb dX0_lineSteps_16 rfl (lv_at hl 3 rfl) ?_
        refine va_get (D := (dC, dI)) (ci := 0) (v := .ref qk) (C := RX0) (T := TX0) (N := 9) hx hb hts hin0 hown hK hP 0 rfl rfl 0 (by decide) lk9 (fun _ h9 => h9) rfl dX0_lineSteps_17 ?_
        refine lv_iload hx hb dX0_lineSteps_20 (lv_at hl 0 rfl) ?_
        refine lv_iload_n hx hb dX0_lineSteps_22 rfl (lv_at hl 4 rfl) ?_
        refine lv_iconst (v := nI 1) hx hb dX0_lineSteps_23 (by decide) ?_
        refine gz_isub (i := ln) (j := 1) hx hb dX0_lineSteps_24 (by omega) ?_
        refine gz_callR (W.runS (As := [.int (nI i), .int (nI (ln - 1))]) (rest := [.ref qk]) ⟨hx, hb, hml, hown, hts⟩ (cG_cellAt l i (ln - 1)) (va_cwS 2 hts gX0_lineSteps_X0_cellAt rfl rfl rfl (by decide +kernel) ⟨Nat.le_of_ble_eq_true rfl, Nat.le_of_ble_eq_true rfl⟩) preEq rfl rfl hl.1 rfl (lv_room (Nat.le_of_ble_eq_true rfl)) dX0_lineSteps_25 ⟨Nat.le_of_ble_eq_true rfl, Nat.le_of_ble_eq_true rfl⟩) ?_
        refine gz_iald (k := i * 12 + (ln - 1)) hx hb hK hP 1 0 rfl rfl (by omega) (by omega) dX0_lineSteps_28 ?_
        refine lv_istore (lv' := [(5, .int (fk (i * 12 + (ln - 1)))), (4, .int (nI i)), (3, .int (nI T)), (2, .int (nI S)), (0, .ref h), (1, .int (nI ln))]) hx hb dX0_lineSteps_29 hl (by decide) rfl (fun ls hl => ?_)
        refine lv_iload hx hb dX0_lineSteps_31 (lv_at hl 0 rfl) ?_
        refine gz_callR (W.runS (As := [.int (fk (i * 12 + (ln - 1)))]) (rest := []) ⟨hx, hb, hml, hown, hts⟩ (cG_isCoil l (fk (i * 12 + (ln - 1)))) (va_cwS 1 hts gX0_lineSteps_X0_isCoil rfl rfl rfl (by decide +kernel) ⟨Nat.le_of_ble_eq_true rfl, Nat.le_of_ble_eq_true rfl⟩) preEq rfl rfl hl.1 rfl (lv_room (Nat.le_of_ble_eq_true rfl)) dX0_lineSteps_33 ⟨Nat.le_of_ble_eq_true rfl, Nat.le_of_ble_eq_true rfl⟩) ?_
        refine gz_ifeqB (tgt := 42) hx hb dX0_lineSteps_36 (by decide) (fun c_2 => False.elim (c_2 hco)) (fun c_2 => ?_)
        refine lv_goto (tgt := 98) hx hb dX0_lineSteps_39 (by decide) ?_
        refine lv_iinc (v := nI (i + 1)) (lv' := [(4, .int (nI (i + 1))), (5, .int (fk (i * 12 + (ln - 1)))), (3, .int (nI T)), (2, .int (nI S)), (0, .ref h), (1, .int (nI ln))]) hx hb dX0_lineSteps_98 hl (k := 1) rfl (nI_1 _) (by decide) rfl (fun ls hl => ?_)
        refine lv_goto (tgt := 7) hx hb dX0_lineSteps_101 (by decide) ?_
        exact ih (i + 1) (S) (T) (by omega) (by show _ = gLs1 _ _ (gLs fk fl ln i); rw [← hST]; unfold gLs1; rw [if_pos hco]) ls (lv_sub hl [0, 2, 3, 4, 5] rfl)
      by_cases hk0 : fk (i * 12 + (ln - 1)) = nI 0
      · rcases hfl (i * 13 + ln) (by omega) with hf | hf
        · skip
          refine lv_iload hx hb dX0_lineSteps_7 (lv_at hl 0 rfl) ?_
          refine lv_aload_n hx hb dX0_lineSteps_9 rfl (lv_at hl 3 rfl) ?_
          refine va_get (D := (dC, dI)) (ci := 0) (v := .int (nI rn)) (C := RX0) (T := TX0) (N := 9) hx hb hts hin0 hown hK hP 0 rfl rfl 6 (by decide) lk28 (fun _ h9 => h9) rfl dX0_lineSteps_10 ?_
          refine gz_icmp_ge (tgt := 104) (za := ((i : Nat) : Int)) (zb := ((rn : Nat) : Int)) hx hb dX0_lineSteps_13 (by decide) (nI_toInt (by omega)) (nI_toInt (by omega)) (fun c_1 => False.elim (by omega)) (fun c_1 => ?_)
          refine lv_aload_n hx hb dX0_lineSteps_16 rfl (lv_at hl 3 rfl) ?_
          refine va_get (D := (dC, dI)) (ci := 0) (v := .ref qk) (C := RX0) (T := TX0) (N := 9) hx hb hts hin0 hown hK hP 0 rfl rfl 0 (by decide) lk9 (fun _ h9 => h9) rfl dX0_lineSteps_17 ?_
          refine lv_iload hx hb dX0_lineSteps_20 (lv_at hl 0 rfl) ?_
          refine lv_iload_n hx hb dX0_lineSteps_22 rfl (lv_at hl 4 rfl) ?_
          refine lv_iconst (v := nI 1) hx hb dX0_lineSteps_23 (by decide) ?_
          refine gz_isub (i := ln) (j := 1) hx hb dX0_lineSteps_24 (by omega) ?_
          refine gz_callR (W.runS (As := [.int (nI i), .int (nI (ln - 1))]) (rest := [.ref qk]) ⟨hx, hb, hml, hown, hts⟩ (cG_cellAt l i (ln - 1)) (va_cwS 2 hts gX0_lineSteps_X0_cellAt rfl rfl rfl (by decide +kernel) ⟨Nat.le_of_ble_eq_true rfl, Nat.le_of_ble_eq_true rfl⟩) preEq rfl rfl hl.1 rfl (lv_room (Nat.le_of_ble_eq_true rfl)) dX0_lineSteps_25 ⟨Nat.le_of_ble_eq_true rfl, Nat.le_of_ble_eq_true rfl⟩) ?_
          refine gz_iald (k := i * 12 + (ln - 1)) hx hb hK hP 1 0 rfl rfl (by omega) (by omega) dX0_lineSteps_28 ?_
          refine lv_istore (lv' := [(5, .int (fk (i * 12 + (ln - 1)))), (4, .int (nI i)), (3, .int (nI T)), (2, .int (nI S)), (0, .ref h), (1, .int (nI ln))]) hx hb dX0_lineSteps_29 hl (by decide) rfl (fun ls hl => ?_)
          refine lv_iload hx hb dX0_lineSteps_31 (lv_at hl 0 rfl) ?_
          refine gz_callR (W.runS (As := [.int (fk (i * 12 + (ln - 1)))]) (rest := []) ⟨hx, hb, hml, hown, hts⟩ (cG_isCoil l (fk (i * 12 + (ln - 1)))) (va_cwS 1 hts gX0_lineSteps_X0_isCoil rfl rfl rfl (by decide +kernel) ⟨Nat.le_of_ble_eq_true rfl, Nat.le_of_ble_eq_true rfl⟩) preEq rfl rfl hl.1 rfl (lv_room (Nat.le_of_ble_eq_true rfl)) dX0_lineSteps_33 ⟨Nat.le_of_ble_eq_true rfl, Nat.le_of_ble_eq_true rfl⟩) ?_
          refine gz_ifeqB (tgt := 42) hx hb dX0_lineSteps_36 (by decide) (fun c_2 => ?_) (fun c_2 => False.elim (hco c_2))
          refine lv_iload hx hb dX0_lineSteps_42 (lv_at hl 0 rfl) ?_
          refine lv_if_eq (tgt := 61) hx hb dX0_lineSteps_44 (by decide) (fun c_3 => ?_) (fun c_3 => False.elim (c_3 hk0))
          refine lv_aload_n hx hb dX0_lineSteps_61 rfl (lv_at hl 4 rfl) ?_
          refine va_get (D := (dC, dI)) (ci := 0) (v := .ref ql) (C := RX0) (T := TX0) (N := 9) hx hb hts hin0 hown hK hP 0 rfl rfl 3 (by decide) lk19 (fun _ h9 => h9) rfl dX0_lineSteps_62 ?_
          refine lv_iload hx hb dX0_lineSteps_65 (lv_at hl 1 rfl) ?_
          refine lv_iload_n hx hb dX0_lineSteps_67 rfl (lv_at hl 5 rfl) ?_
          refine gz_callR (W.runS (As := [.int (nI i), .int (nI ln)]) (rest := [.ref ql]) ⟨hx, hb, hml, hown, hts⟩ (cG_pointAt l i ln) (va_cwS 2 hts gX0_lineSteps_X0_pointAt rfl rfl rfl (by decide +kernel) ⟨Nat.le_of_ble_eq_true rfl, Nat.le_of_ble_eq_true rfl⟩) preEq rfl rfl hl.1 rfl (lv_room (Nat.le_of_ble_eq_true rfl)) dX0_lineSteps_68 ⟨Nat.le_of_ble_eq_true rfl, Nat.le_of_ble_eq_true rfl⟩) ?_
          refine gz_iald (k := i * 13 + ln) hx hb hK hP 4 0 rfl rfl (by omega) (by omega) dX0_lineSteps_71 ?_
          refine lv_if_ne (tgt := 79) hx hb dX0_lineSteps_72 (by decide) (fun c_4 => False.elim (c_4 hf)) (fun c_4 => ?_)
          refine lv_iconst (v := nI 1) hx hb dX0_lineSteps_75 (by decide) ?_
          refine lv_goto (tgt := 80) hx hb dX0_lineSteps_76 (by decide) ?_
          refine lv_istore (lv' := [(6, .int (nI 1)), (5, .int (fk (i * 12 + (ln - 1)))), (4, .int (nI i)), (3, .int (nI T)), (2, .int (nI S)), (0, .ref h), (1, .int (nI ln))]) hx hb dX0_lineSteps_80 hl (by decide) rfl (fun ls hl => ?_)
          refine lv_iload hx hb dX0_lineSteps_82 (lv_at hl 0 rfl) ?_
          refine lv_if_eq (tgt := 98) hx hb dX0_lineSteps_84 (by decide) (fun c_5 => False.elim (absurd c_5 (by decide))) (fun c_5 => ?_)
          refine lv_iload_n hx hb dX0_lineSteps_87 rfl (lv_at hl 4 rfl) ?_
          refine lv_iload_n hx hb dX0_lineSteps_88 rfl (lv_at hl 3 rfl) ?_
          refine gz_callR (W.runS (As := [.int (nI T)]) (rest := [.int (nI S)]) ⟨hx, hb, hml, hown, hts⟩ (cG_joiningSteps l T (by omega)) (va_cwS 1 hts gX0_lineSteps_X0_joiningSteps rfl rfl rfl (by decide +kernel) ⟨Nat.le_of_ble_eq_true rfl, Nat.le_of_ble_eq_true rfl⟩) preEq rfl rfl hl.1 rfl (lv_room (Nat.le_of_ble_eq_true rfl)) dX0_lineSteps_89 ⟨Nat.le_of_ble_eq_true rfl, Nat.le_of_ble_eq_true rfl⟩) ?_
          refine lv_iconst (v := nI 1) hx hb dX0_lineSteps_92 (by decide) ?_
          refine gz_iadd (i := if T = 0 then 1 else T - 1) (j := 1) hx hb dX0_lineSteps_93 ?_
          refine gz_iadd (i := S) (j := (if T = 0 then 1 else T - 1) + 1) hx hb dX0_lineSteps_94 ?_
          refine lv_istore_n (lv' := [(2, .int (nI (S + ((if T = 0 then 1 else T - 1) + 1)))), (6, .int (nI 1)), (5, .int (fk (i * 12 + (ln - 1)))), (4, .int (nI i)), (3, .int (nI T)), (0, .ref h), (1, .int (nI ln))]) hx hb dX0_lineSteps_95 rfl hl (by decide) rfl (fun ls hl => ?_)
          refine lv_iconst (v := nI 0) hx hb dX0_lineSteps_96 (by decide) ?_
          refine lv_istore_n (lv' := [(3, .int (nI 0)), (2, .int (nI (S + ((if T = 0 then 1 else T - 1) + 1)))), (6, .int (nI 1)), (5, .int (fk (i * 12 + (ln - 1)))), (4, .int (nI i)), (0, .ref h), (1, .int (nI ln))]) hx hb dX0_lineSteps_97 rfl hl (by decide) rfl (fun ls hl => ?_)
          refine lv_iinc (v := nI (i + 1)) (lv' := [(4, .int (nI (i + 1))), (3, .int (nI 0)), (2, .int (nI (S + ((if T = 0 then 1 else T - 1) + 1)))), (6, .int (nI 1)), (5, .int (fk (i * 12 + (ln - 1)))), (0, .ref h), (1, .int (nI ln))]) hx hb dX0_lineSteps_98 hl (k := 4) rfl (nI_1 _) (by decide) rfl (fun ls hl => ?_)
          refine lv_goto (tgt := 7) hx hb dX0_lineSteps_101 (by decide) ?_
          exact ih (i + 1) (S + ((if T = 0 then 1 else T - 1) + 1)) (0) (by omega) (by show _ = gLs1 _ _ (gLs fk fl ln i); rw [← hST]; unfold gLs1; rw [if_neg hco, if_pos hf, if_pos hk0]) ls (lv_sub hl [0, 1, 2, 5, 6] rfl)
        · skip
          refine lv_iload hx hb dX0_lineSteps_7 (lv_at hl 0 rfl) ?_
          refine lv_aload_n hx hb dX0_lineSteps_9 rfl (lv_at hl 3 rfl) ?_
          refine va_get (D := (dC, dI)) (ci := 0) (v := .int (nI rn)) (C := RX0) (T := TX0) (N := 9) hx hb hts hin0 hown hK hP 0 rfl rfl 6 (by decide) lk28 (fun _ h9 => h9) rfl dX0_lineSteps_10 ?_
          refine gz_icmp_ge (tgt := 104) (za := ((i : Nat) : Int)) (zb := ((rn : Nat) : Int)) hx hb dX0_lineSteps_13 (by decide) (nI_toInt (by omega)) (nI_toInt (by omega)) (fun c_1 => False.elim (by omega)) (fun c_1 => ?_)
          refine lv_aload_n hx hb dX0_lineSteps_16 rfl (lv_at hl 3 rfl) ?_
          refine va_get (D := (dC, dI)) (ci := 0) (v := .ref qk) (C := RX0) (T := TX0) (N := 9) hx hb hts hin0 hown hK hP 0 rfl rfl 0 (by decide) lk9 (fun _ h9 => h9) rfl dX0_lineSteps_17 ?_
          refine lv_iload hx hb dX0_lineSteps_20 (lv_at hl 0 rfl) ?_
          refine lv_iload_n hx hb dX0_lineSteps_22 rfl (lv_at hl 4 rfl) ?_
          refine lv_iconst (v := nI 1) hx hb dX0_lineSteps_23 (by decide) ?_
          refine gz_isub (i := ln) (j := 1) hx hb dX0_lineSteps_24 (by omega) ?_
          refine gz_callR (W.runS (As := [.int (nI i), .int (nI (ln - 1))]) (rest := [.ref qk]) ⟨hx, hb, hml, hown, hts⟩ (cG_cellAt l i (ln - 1)) (va_cwS 2 hts gX0_lineSteps_X0_cellAt rfl rfl rfl (by decide +kernel) ⟨Nat.le_of_ble_eq_true rfl, Nat.le_of_ble_eq_true rfl⟩) preEq rfl rfl hl.1 rfl (lv_room (Nat.le_of_ble_eq_true rfl)) dX0_lineSteps_25 ⟨Nat.le_of_ble_eq_true rfl, Nat.le_of_ble_eq_true rfl⟩) ?_
          refine gz_iald (k := i * 12 + (ln - 1)) hx hb hK hP 1 0 rfl rfl (by omega) (by omega) dX0_lineSteps_28 ?_
          refine lv_istore (lv' := [(5, .int (fk (i * 12 + (ln - 1)))), (4, .int (nI i)), (3, .int (nI T)), (2, .int (nI S)), (0, .ref h), (1, .int (nI ln))]) hx hb dX0_lineSteps_29 hl (by decide) rfl (fun ls hl => ?_)
          refine lv_iload hx hb dX0_lineSteps_31 (lv_at hl 0 rfl) ?_
          refine gz_callR (W.runS (As := [.int (fk (i * 12 + (ln - 1)))]) (rest := []) ⟨hx, hb, hml, hown, hts⟩ (cG_isCoil l (fk (i * 12 + (ln - 1)))) (va_cwS 1 hts gX0_lineSteps_X0_isCoil rfl rfl rfl (by decide +kernel) ⟨Nat.le_of_ble_eq_true rfl, Nat.le_of_ble_eq_true rfl⟩) preEq rfl rfl hl.1 rfl (lv_room (Nat.le_of_ble_eq_true rfl)) dX0_lineSteps_33 ⟨Nat.le_of_ble_eq_true rfl, Nat.le_of_ble_eq_true rfl⟩) ?_
          refine gz_ifeqB (tgt := 42) hx hb dX0_lineSteps_36 (by decide) (fun c_2 => ?_) (fun c_2 => False.elim (hco c_2))
          refine lv_iload hx hb dX0_lineSteps_42 (lv_at hl 0 rfl) ?_
          refine lv_if_eq (tgt := 61) hx hb dX0_lineSteps_44 (by decide) (fun c_3 => ?_) (fun c_3 => False.elim (c_3 hk0))
          refine lv_aload_n hx hb dX0_lineSteps_61 rfl (lv_at hl 4 rfl) ?_
          refine va_get (D := (dC, dI)) (ci := 0) (v := .ref ql) (C := RX0) (T := TX0) (N := 9) hx hb hts hin0 hown hK hP 0 rfl rfl 3 (by decide) lk19 (fun _ h9 => h9) rfl dX0_lineSteps_62 ?_
          refine lv_iload hx hb dX0_lineSteps_65 (lv_at hl 1 rfl) ?_
          refine lv_iload_n hx hb dX0_lineSteps_67 rfl (lv_at hl 5 rfl) ?_
          refine gz_callR (W.runS (As := [.int (nI i), .int (nI ln)]) (rest := [.ref ql]) ⟨hx, hb, hml, hown, hts⟩ (cG_pointAt l i ln) (va_cwS 2 hts gX0_lineSteps_X0_pointAt rfl rfl rfl (by decide +kernel) ⟨Nat.le_of_ble_eq_true rfl, Nat.le_of_ble_eq_true rfl⟩) preEq rfl rfl hl.1 rfl (lv_room (Nat.le_of_ble_eq_true rfl)) dX0_lineSteps_68 ⟨Nat.le_of_ble_eq_true rfl, Nat.le_of_ble_eq_true rfl⟩) ?_
          refine gz_iald (k := i * 13 + ln) hx hb hK hP 4 0 rfl rfl (by omega) (by omega) dX0_lineSteps_71 ?_
          refine lv_if_ne (tgt := 79) hx hb dX0_lineSteps_72 (by decide) (fun c_4 => ?_) (fun c_4 => False.elim (absurd (hf.symm.trans c_4) (by decide)))
          refine lv_iconst (v := nI 0) hx hb dX0_lineSteps_79 (by decide) ?_
          refine lv_istore (lv' := [(6, .int (nI 0)), (5, .int (fk (i * 12 + (ln - 1)))), (4, .int (nI i)), (3, .int (nI T)), (2, .int (nI S)), (0, .ref h), (1, .int (nI ln))]) hx hb dX0_lineSteps_80 hl (by decide) rfl (fun ls hl => ?_)
          refine lv_iload hx hb dX0_lineSteps_82 (lv_at hl 0 rfl) ?_
          refine lv_if_eq (tgt := 98) hx hb dX0_lineSteps_84 (by decide) (fun c_5 => ?_) (fun c_5 => False.elim (c_5 rfl))
          refine lv_iinc (v := nI (i + 1)) (lv' := [(4, .int (nI (i + 1))), (6, .int (nI 0)), (5, .int (fk (i * 12 + (ln - 1)))), (3, .int (nI T)), (2, .int (nI S)), (0, .ref h), (1, .int (nI ln))]) hx hb dX0_lineSteps_98 hl (k := 2) rfl (nI_1 _) (by decide) rfl (fun ls hl => ?_)
          refine lv_goto (tgt := 7) hx hb dX0_lineSteps_101 (by decide) ?_
          exact ih (i + 1) (S) (T) (by omega) (by show _ = gLs1 _ _ (gLs fk fl ln i); rw [← hST]; unfold gLs1; rw [if_neg hco, if_neg (by rw [hf]; decide), if_pos hk0]) ls (lv_sub hl [0, 3, 4, 5, 6] rfl)
      · rcases hfl (i * 13 + ln) (by omega) with hf | hf
        · skip
          refine lv_iload hx hb dX0_lineSteps_7 (lv_at hl 0 rfl) ?_
          refine lv_aload_n hx hb dX0_lineSteps_9 rfl (lv_at hl 3 rfl) ?_
          refine va_get (D := (dC, dI)) (ci := 0) (v := .int (nI rn)) (C := RX0) (T := TX0) (N := 9) hx hb hts hin0 hown hK hP 0 rfl rfl 6 (by decide) lk28 (fun _ h9 => h9) rfl dX0_lineSteps_10 ?_
          refine gz_icmp_ge (tgt := 104) (za := ((i : Nat) : Int)) (zb := ((rn : Nat) : Int)) hx hb dX0_lineSteps_13 (by decide) (nI_toInt (by omega)) (nI_toInt (by omega)) (fun c_1 => False.elim (by omega)) (fun c_1 => ?_)
          refine lv_aload_n hx hb dX0_lineSteps_16 rfl (lv_at hl 3 rfl) ?_
          refine va_get (D := (dC, dI)) (ci := 0) (v := .ref qk) (C := RX0) (T := TX0) (N := 9) hx hb hts hin0 hown hK hP 0 rfl rfl 0 (by decide) lk9 (fun _ h9 => h9) rfl dX0_lineSteps_17 ?_
          refine lv_iload hx hb dX0_lineSteps_20 (lv_at hl 0 rfl) ?_
          refine lv_iload_n hx hb dX0_lineSteps_22 rfl (lv_at hl 4 rfl) ?_
          refine lv_iconst (v := nI 1) hx hb dX0_lineSteps_23 (by decide) ?_
          refine gz_isub (i := ln) (j := 1) hx hb dX0_lineSteps_24 (by omega) ?_
          refine gz_callR (W.runS (As := [.int (nI i), .int (nI (ln - 1))]) (rest := [.ref qk]) ⟨hx, hb, hml, hown, hts⟩ (cG_cellAt l i (ln - 1)) (va_cwS 2 hts gX0_lineSteps_X0_cellAt rfl rfl rfl (by decide +kernel) ⟨Nat.le_of_ble_eq_true rfl, Nat.le_of_ble_eq_true rfl⟩) preEq rfl rfl hl.1 rfl (lv_room (Nat.le_of_ble_eq_true rfl)) dX0_lineSteps_25 ⟨Nat.le_of_ble_eq_true rfl, Nat.le_of_ble_eq_true rfl⟩) ?_
          refine gz_iald (k := i * 12 + (ln - 1)) hx hb hK hP 1 0 rfl rfl (by omega) (by omega) dX0_lineSteps_28 ?_
          refine lv_istore (lv' := [(5, .int (fk (i * 12 + (ln - 1)))), (4, .int (nI i)), (3, .int (nI T)), (2, .int (nI S)), (0, .ref h), (1, .int (nI ln))]) hx hb dX0_lineSteps_29 hl (by decide) rfl (fun ls hl => ?_)
          refine lv_iload hx hb dX0_lineSteps_31 (lv_at hl 0 rfl) ?_
          refine gz_callR (W.runS (As := [.int (fk (i * 12 + (ln - 1)))]) (rest := []) ⟨hx, hb, hml, hown, hts⟩ (cG_isCoil l (fk (i * 12 + (ln - 1)))) (va_cwS 1 hts gX0_lineSteps_X0_isCoil rfl rfl rfl (by decide +kernel) ⟨Nat.le_of_ble_eq_true rfl, Nat.le_of_ble_eq_true rfl⟩) preEq rfl rfl hl.1 rfl (lv_room (Nat.le_of_ble_eq_true rfl)) dX0_lineSteps_33 ⟨Nat.le_of_ble_eq_true rfl, Nat.le_of_ble_eq_true rfl⟩) ?_
          refine gz_ifeqB (tgt := 42) hx hb dX0_lineSteps_36 (by decide) (fun c_2 => ?_) (fun c_2 => False.elim (hco c_2))
          refine lv_iload hx hb dX0_lineSteps_42 (lv_at hl 0 rfl) ?_
          refine lv_if_eq (tgt := 61) hx hb dX0_lineSteps_44 (by decide) (fun c_3 => False.elim (hk0 c_3)) (fun c_3 => ?_)
          refine lv_iload_n hx hb dX0_lineSteps_47 rfl (lv_at hl 3 rfl) ?_
          refine lv_iconst (v := nI 1) hx hb dX0_lineSteps_48 (by decide) ?_
          refine va_gets hx hb hZ hS0 hown lk94 (fun _ h9 => h9) dX0_lineSteps_49 ?_
          refine lv_iload hx hb dX0_lineSteps_52 (lv_at hl 0 rfl) ?_
          refine va_ti (v := .int (nI (ksN (fk (i * 12 + (ln - 1))).toNatClampNeg))) hx hb hT hS0 hki rfl dX0_lineSteps_54 ?_
          refine gz_iadd (i := 1) (j := ksN (fk (i * 12 + (ln - 1))).toNatClampNeg) hx hb dX0_lineSteps_55 ?_
          refine gz_iadd (i := S) (j := 1 + (ksN (fk (i * 12 + (ln - 1))).toNatClampNeg)) hx hb dX0_lineSteps_56 ?_
          refine lv_istore_n (lv' := [(2, .int (nI (S + (1 + (ksN (fk (i * 12 + (ln - 1))).toNatClampNeg))))), (5, .int (fk (i * 12 + (ln - 1)))), (4, .int (nI i)), (3, .int (nI T)), (0, .ref h), (1, .int (nI ln))]) hx hb dX0_lineSteps_57 rfl hl (by decide) rfl (fun ls hl => ?_)
          refine lv_iinc (v := nI (T + 1)) (lv' := [(3, .int (nI (T + 1))), (2, .int (nI (S + (1 + (ksN (fk (i * 12 + (ln - 1))).toNatClampNeg))))), (5, .int (fk (i * 12 + (ln - 1)))), (4, .int (nI i)), (0, .ref h), (1, .int (nI ln))]) hx hb dX0_lineSteps_58 hl (k := 3) rfl (nI_1 _) (by decide) rfl (fun ls hl => ?_)
          refine lv_aload_n hx hb dX0_lineSteps_61 rfl (lv_at hl 4 rfl) ?_
          refine va_get (D := (dC, dI)) (ci := 0) (v := .ref ql) (C := RX0) (T := TX0) (N := 9) hx hb hts hin0 hown hK hP 0 rfl rfl 3 (by decide) lk19 (fun _ h9 => h9) rfl dX0_lineSteps_62 ?_
          refine lv_iload hx hb dX0_lineSteps_65 (lv_at hl 3 rfl) ?_
          refine lv_iload_n hx hb dX0_lineSteps_67 rfl (lv_at hl 5 rfl) ?_
          refine gz_callR (W.runS (As := [.int (nI i), .int (nI ln)]) (rest := [.ref ql]) ⟨hx, hb, hml, hown, hts⟩ (cG_pointAt l i ln) (va_cwS 2 hts gX0_lineSteps_X0_pointAt rfl rfl rfl (by decide +kernel) ⟨Nat.le_of_ble_eq_true rfl, Nat.le_of_ble_eq_true rfl⟩) preEq rfl rfl hl.1 rfl (lv_room (Nat.le_of_ble_eq_true rfl)) dX0_lineSteps_68 ⟨Nat.le_of_ble_eq_true rfl, Nat.le_of_ble_eq_true rfl⟩) ?_
          refine gz_iald (k := i * 13 + ln) hx hb hK hP 4 0 rfl rfl (by omega) (by omega) dX0_lineSteps_71 ?_
          refine lv_if_ne (tgt := 79) hx hb dX0_lineSteps_72 (by decide) (fun c_4 => False.elim (c_4 hf)) (fun c_4 => ?_)
          refine lv_iconst (v := nI 1) hx hb dX0_lineSteps_75 (by decide) ?_
          refine lv_goto (tgt := 80) hx hb dX0_lineSteps_76 (by decide) ?_
          refine lv_istore (lv' := [(6, .int (nI 1)), (3, .int (nI (T + 1))), (2, .int (nI (S + (1 + (ksN (fk (i * 12 + (ln - 1))).toNatClampNeg))))), (5, .int (fk (i * 12 + (ln - 1)))), (4, .int (nI i)), (0, .ref h), (1, .int (nI ln))]) hx hb dX0_lineSteps_80 hl (by decide) rfl (fun ls hl => ?_)
          refine lv_iload hx hb dX0_lineSteps_82 (lv_at hl 0 rfl) ?_
          refine lv_if_eq (tgt := 98) hx hb dX0_lineSteps_84 (by decide) (fun c_5 => False.elim (absurd c_5 (by decide))) (fun c_5 => ?_)
          refine lv_iload_n hx hb dX0_lineSteps_87 rfl (lv_at hl 2 rfl) ?_
          refine lv_iload_n hx hb dX0_lineSteps_88 rfl (lv_at hl 1 rfl) ?_
          refine gz_callR (W.runS (As := [.int (nI (T + 1))]) (rest := [.int (nI (S + (1 + (ksN (fk (i * 12 + (ln - 1))).toNatClampNeg))))]) ⟨hx, hb, hml, hown, hts⟩ (cG_joiningSteps l (T + 1) (by omega)) (va_cwS 1 hts gX0_lineSteps_X0_joiningSteps rfl rfl rfl (by decide +kernel) ⟨Nat.le_of_ble_eq_true rfl, Nat.le_of_ble_eq_true rfl⟩) preEq rfl rfl hl.1 rfl (lv_room (Nat.le_of_ble_eq_true rfl)) dX0_lineSteps_89 ⟨Nat.le_of_ble_eq_true rfl, Nat.le_of_ble_eq_true rfl⟩) ?_
          refine lv_iconst (v := nI 1) hx hb dX0_lineSteps_92 (by decide) ?_
          refine gz_iadd (i := if T + 1 = 0 then 1 else T + 1 - 1) (j := 1) hx hb dX0_lineSteps_93 ?_
          refine gz_iadd (i := S + (1 + (ksN (fk (i * 12 + (ln - 1))).toNatClampNeg))) (j := (if T + 1 = 0 then 1 else T + 1 - 1) + 1) hx hb dX0_lineSteps_94 ?_
          refine lv_istore_n (lv' := [(2, .int (nI ((S + (1 + (ksN (fk (i * 12 + (ln - 1))).toNatClampNeg))) + ((if T + 1 = 0 then 1 else T + 1 - 1) + 1)))), (6, .int (nI 1)), (3, .int (nI (T + 1))), (5, .int (fk (i * 12 + (ln - 1)))), (4, .int (nI i)), (0, .ref h), (1, .int (nI ln))]) hx hb dX0_lineSteps_95 rfl hl (by decide) rfl (fun ls hl => ?_)
          refine lv_iconst (v := nI 0) hx hb dX0_lineSteps_96 (by decide) ?_
          refine lv_istore_n (lv' := [(3, .int (nI 0)), (2, .int (nI ((S + (1 + (ksN (fk (i * 12 + (ln - 1))).toNatClampNeg))) + ((if T + 1 = 0 then 1 else T + 1 - 1) + 1)))), (6, .int (nI 1)), (5, .int (fk (i * 12 + (ln - 1)))), (4, .int (nI i)), (0, .ref h), (1, .int (nI ln))]) hx hb dX0_lineSteps_97 rfl hl (by decide) rfl (fun ls hl => ?_)
          refine lv_iinc (v := nI (i + 1)) (lv' := [(4, .int (nI (i + 1))), (3, .int (nI 0)), (2, .int (nI ((S + (1 + (ksN (fk (i * 12 + (ln - 1))).toNatClampNeg))) + ((if T + 1 = 0 then 1 else T + 1 - 1) + 1)))), (6, .int (nI 1)), (5, .int (fk (i * 12 + (ln - 1)))), (0, .ref h), (1, .int (nI ln))]) hx hb dX0_lineSteps_98 hl (k := 4) rfl (nI_1 _) (by decide) rfl (fun ls hl => ?_)
          refine lv_goto (tgt := 7) hx hb dX0_lineSteps_101 (by decide) ?_
          exact ih (i + 1) ((S + (1 + (ksN (fk (i * 12 + (ln - 1))).toNatClampNeg))) + ((if T + 1 = 0 then 1 else T + 1 - 1) + 1)) (0) (by omega) (by show _ = gLs1 _ _ (gLs fk fl ln i); rw [← hST]; unfold gLs1; rw [if_neg hco, if_pos hf, if_neg hk0]; rw [if_neg (by omega)]; rfl) ls (lv_sub hl [0, 1, 2, 5, 6] rfl)
        · skip
          refine lv_iload hx hb dX0_lineSteps_7 (lv_at hl 0 rfl) ?_
          refine lv_aload_n hx hb dX0_lineSteps_9 rfl (lv_at hl 3 rfl) ?_
          refine va_get (D := (dC, dI)) (ci := 0) (v := .int (nI rn)) (C := RX0) (T := TX0) (N := 9) hx hb hts hin0 hown hK hP 0 rfl rfl 6 (by decide) lk28 (fun _ h9 => h9) rfl dX0_lineSteps_10 ?_
          refine gz_icmp_ge (tgt := 104) (za := ((i : Nat) : Int)) (zb := ((rn : Nat) : Int)) hx hb dX0_lineSteps_13 (by decide) (nI_toInt (by omega)) (nI_toInt (by omega)) (fun c_1 => False.elim (by omega)) (fun c_1 => ?_)
          refine lv_aload_n hx hb dX0_lineSteps_16 rfl (lv_at hl 3 rfl) ?_
          refine va_get (D := (dC, dI)) (ci := 0) (v := .ref qk) (C := RX0) (T := TX0) (N := 9) hx hb hts hin0 hown hK hP 0 rfl rfl 0 (by decide) lk9 (fun _ h9 => h9) rfl dX0_lineSteps_17 ?_
          refine lv_iload hx hb dX0_lineSteps_20 (lv_at hl 0 rfl) ?_
          refine lv_iload_n hx hb dX0_lineSteps_22 rfl (lv_at hl 4 rfl) ?_
          refine lv_iconst (v := nI 1) hx hb dX0_lineSteps_23 (by decide) ?_
          refine gz_isub (i := ln) (j := 1) hx hb dX0_lineSteps_24 (by omega) ?_
          refine gz_callR (W.runS (As := [.int (nI i), .int (nI (ln - 1))]) (rest := [.ref qk]) ⟨hx, hb, hml, hown, hts⟩ (cG_cellAt l i (ln - 1)) (va_cwS 2 hts gX0_lineSteps_X0_cellAt rfl rfl rfl (by decide +kernel) ⟨Nat.le_of_ble_eq_true rfl, Nat.le_of_ble_eq_true rfl⟩) preEq rfl rfl hl.1 rfl (lv_room (Nat.le_of_ble_eq_true rfl)) dX0_lineSteps_25 ⟨Nat.le_of_ble_eq_true rfl, Nat.le_of_ble_eq_true rfl⟩) ?_
          refine gz_iald (k := i * 12 + (ln - 1)) hx hb hK hP 1 0 rfl rfl (by omega) (by omega) dX0_lineSteps_28 ?_
          refine lv_istore (lv' := [(5, .int (fk (i * 12 + (ln - 1)))), (4, .int (nI i)), (3, .int (nI T)), (2, .int (nI S)), (0, .ref h), (1, .int (nI ln))]) hx hb dX0_lineSteps_29 hl (by decide) rfl (fun ls hl => ?_)
          refine lv_iload hx hb dX0_lineSteps_31 (lv_at hl 0 rfl) ?_
          refine gz_callR (W.runS (As := [.int (fk (i * 12 + (ln - 1)))]) (rest := []) ⟨hx, hb, hml, hown, hts⟩ (cG_isCoil l (fk (i * 12 + (ln - 1)))) (va_cwS 1 hts gX0_lineSteps_X0_isCoil rfl rfl rfl (by decide +kernel) ⟨Nat.le_of_ble_eq_true rfl, Nat.le_of_ble_eq_true rfl⟩) preEq rfl rfl hl.1 rfl (lv_room (Nat.le_of_ble_eq_true rfl)) dX0_lineSteps_33 ⟨Nat.le_of_ble_eq_true rfl, Nat.le_of_ble_eq_true rfl⟩) ?_
          refine gz_ifeqB (tgt := 42) hx hb dX0_lineSteps_36 (by decide) (fun c_2 => ?_) (fun c_2 => False.elim (hco c_2))
          refine lv_iload hx hb dX0_lineSteps_42 (lv_at hl 0 rfl) ?_
          refine lv_if_eq (tgt := 61) hx hb dX0_lineSteps_44 (by decide) (fun c_3 => False.elim (hk0 c_3)) (fun c_3 => ?_)
          refine lv_iload_n hx hb dX0_lineSteps_47 rfl (lv_at hl 3 rfl) ?_
          refine lv_iconst (v := nI 1) hx hb dX0_lineSteps_48 (by decide) ?_
          refine va_gets hx hb hZ hS0 hown lk94 (fun _ h9 => h9) dX0_lineSteps_49 ?_
          refine lv_iload hx hb dX0_lineSteps_52 (lv_at hl 0 rfl) ?_
          refine va_ti (v := .int (nI (ksN (fk (i * 12 + (ln - 1))).toNatClampNeg))) hx hb hT hS0 hki rfl dX0_lineSteps_54 ?_
          refine gz_iadd (i := 1) (j := ksN (fk (i * 12 + (ln - 1))).toNatClampNeg) hx hb dX0_lineSteps_55 ?_
          refine gz_iadd (i := S) (j := 1 + (ksN (fk (i * 12 + (ln - 1))).toNatClampNeg)) hx hb dX0_lineSteps_56 ?_
          refine lv_istore_n (lv' := [(2, .int (nI (S + (1 + (ksN (fk (i * 12 + (ln - 1))).toNatClampNeg))))), (5, .int (fk (i * 12 + (ln - 1)))), (4, .int (nI i)), (3, .int (nI T)), (0, .ref h), (1, .int (nI ln))]) hx hb dX0_lineSteps_57 rfl hl (by decide) rfl (fun ls hl => ?_)
          refine lv_iinc (v := nI (T + 1)) (lv' := [(3, .int (nI (T + 1))), (2, .int (nI (S + (1 + (ksN (fk (i * 12 + (ln - 1))).toNatClampNeg))))), (5, .int (fk (i * 12 + (ln - 1)))), (4, .int (nI i)), (0, .ref h), (1, .int (nI ln))]) hx hb dX0_lineSteps_58 hl (k := 3) rfl (nI_1 _) (by decide) rfl (fun ls hl => ?_)
          refine lv_aload_n hx hb dX0_lineSteps_61 rfl (lv_at hl 4 rfl) ?_
          refine va_get (D := (dC, dI)) (ci := 0) (v := .ref ql) (C := RX0) (T := TX0) (N := 9) hx hb hts hin0 hown hK hP 0 rfl rfl 3 (by decide) lk19 (fun _ h9 => h9) rfl dX0_lineSteps_62 ?_
          refine lv_iload hx hb dX0_lineSteps_65 (lv_at hl 3 rfl) ?_
          refine lv_iload_n hx hb dX0_lineSteps_67 rfl (lv_at hl 5 rfl) ?_
          refine gz_callR (W.runS (As := [.int (nI i), .int (nI ln)]) (rest := [.ref ql]) ⟨hx, hb, hml, hown, hts⟩ (cG_pointAt l i ln) (va_cwS 2 hts gX0_lineSteps_X0_pointAt rfl rfl rfl (by decide +kernel) ⟨Nat.le_of_ble_eq_true rfl, Nat.le_of_ble_eq_true rfl⟩) preEq rfl rfl hl.1 rfl (lv_room (Nat.le_of_ble_eq_true rfl)) dX0_lineSteps_68 ⟨Nat.le_of_ble_eq_true rfl, Nat.le_of_ble_eq_true rfl⟩) ?_
          refine gz_iald (k := i * 13 + ln) hx hb hK hP 4 0 rfl rfl (by omega) (by omega) dX0_lineSteps_71 ?_
          refine lv_if_ne (tgt := 79) hx hb dX0_lineSteps_72 (by decide) (fun c_4 => ?_) (fun c_4 => False.elim (absurd (hf.symm.trans c_4) (by decide)))
          refine lv_iconst (v := nI 0) hx hb dX0_lineSteps_79 (by decide) ?_
          refine lv_istore (lv' := [(6, .int (nI 0)), (3, .int (nI (T + 1))), (2, .int (nI (S + (1 + (ksN (fk (i * 12 + (ln - 1))).toNatClampNeg))))), (5, .int (fk (i * 12 + (ln - 1)))), (4, .int (nI i)), (0, .ref h), (1, .int (nI ln))]) hx hb dX0_lineSteps_80 hl (by decide) rfl (fun ls hl => ?_)
          refine lv_iload hx hb dX0_lineSteps_82 (lv_at hl 0 rfl) ?_
          refine lv_if_eq (tgt := 98) hx hb dX0_lineSteps_84 (by decide) (fun c_5 => ?_) (fun c_5 => False.elim (c_5 rfl))
          refine lv_iinc (v := nI (i + 1)) (lv' := [(4, .int (nI (i + 1))), (6, .int (nI 0)), (3, .int (nI (T + 1))), (2, .int (nI (S + (1 + (ksN (fk (i * 12 + (ln - 1))).toNatClampNeg))))), (5, .int (fk (i * 12 + (ln - 1)))), (0, .ref h), (1, .int (nI ln))]) hx hb dX0_lineSteps_98 hl (k := 4) rfl (nI_1 _) (by decide) rfl (fun ls hl => ?_)
          refine lv_goto (tgt := 7) hx hb dX0_lineSteps_101 (by decide) ?_
          exact ih (i + 1) (S + (1 + (ksN (fk (i * 12 + (ln - 1))).toNatClampNeg))) (T + 1) (by omega) (by show _ = gLs1 _ _ (gLs fk fl ln i); rw [← hST]; unfold gLs1; rw [if_neg hco, if_neg (by rw [hf]; decide), if_neg hk0]) ls (lv_sub hl [0, 2, 3, 5, 6] rfl)
  refine lv_iconst (v := nI 0) hx hb dX0_lineSteps_0 (by decide) ?_
  refine lv_istore_n (lv' := [(2, .int (nI 0)), (0, .ref h), (1, .int (nI ln))]) hx hb dX0_lineSteps_1 rfl hl (by decide) rfl (fun ls hl => ?_)
  refine lv_iconst (v := nI 0) hx hb dX0_lineSteps_2 (by decide) ?_
  refine lv_istore_n (lv' := [(3, .int (nI 0)), (2, .int (nI 0)), (0, .ref h), (1, .int (nI ln))]) hx hb dX0_lineSteps_3 rfl hl (by decide) rfl (fun ls hl => ?_)
  refine lv_iconst (v := nI 0) hx hb dX0_lineSteps_4 (by decide) ?_
  refine lv_istore (lv' := [(4, .int (nI 0)), (3, .int (nI 0)), (2, .int (nI 0)), (0, .ref h), (1, .int (nI ln))]) hx hb dX0_lineSteps_5 hl (by decide) rfl (fun ls hl => ?_)
  exact loop rn 0 0 0 (by omega) rfl ls (lv_sub hl [0, 1, 2, 3, 4] rfl)
set_option maxHeartbeats 4000000 in
set_option maxRecDepth 100000 in
theorem cG_coilSteps (l : Launch) (dC : Nat → ClassId) (dI : Nat → Nat → Nat) (tK : Nat) (cA cZ : ClassId) (h qk qc qs ql qp qv : Nat) (fk fc fs fl fp fv : Nat → Int32) (rn cn : Nat) (sc : Int32)  (hrn : 1 ≤ rn ∧ rn ≤ 12) (hcn : 1 ≤ cn ∧ cn ≤ 12) (hkI : ∀ k, k < 144 → vp_in (fk k) 10) : Met l yX0_coilSteps wsX0_coilSteps ({ frames := 1, cells := 0, slots := 0, locals := 21 }) (gPk (dC, dI) vwCl [(cA, .int), (cZ, .boolean)] tK [.ref h] (gw cA h qk qc qs ql qp qv fk fc fs fl fp fv (nI rn) (nI cn) sc)) (QcRead (nI (gCs fk cn rn))) 0 0 (fun _ => False) := by
  refine Met.ofW (cc := cX0_coilSteps) (maxL := 4) (ret := (some .int)) (by decide) rfl ?_
  intro p e s m args below meth c s₁ B hml hv
  obtain ⟨rfl, hP, hK, hZ, hT⟩ := hv
  have hS0 : va_S (fun _ => False) s.heap s.heap [] := va_S.rf
  have hx := B.exec
  have hb := B.bytes
  have hr := B.returns
  have hts := atoms_spec (ws := wsX0_coilSteps) B.pre
  have hown : s.vm.findClass RX0 = some m.cls := findClass_of_methodNamed B.named
  have hlocks := B.notSynchronized
  have hin0 : ∀ w ∈ u_ws RX0 TX0 9, w ∈ wsX0_coilSteps := by decide +kernel
  have lk28 := hts (.fieldLink RX0 28 "LadderGrid" "rows" "I") (by decide +kernel)
  have lk9 := hts (.fieldLink RX0 9 "LadderGrid" "kinds" "[I") (by decide +kernel)
  have lk32 := hts (.fieldLink RX0 32 "LadderGrid" "columns" "I") (by decide +kernel)
  have lk94 := hts (.fieldLink RX0 94 "LadderGrid" "KIND_STEPS" "[I") (by decide +kernel)
  have hl := lv_entry ([.ref h]) (n := 4) (Nat.le_of_ble_eq_true rfl)
  rw [lg_entry_eq]
  generalize (lg_sl ([.ref h]) ++ List.replicate (4 - (lg_sl ([.ref h])).length) Slot.unset).toArray = ls at hl ⊢
  have hl : lv_has ls 4 [(0, .ref h)] := hl
  have loop : ∀ (n : Nat) (i : Nat), i + n = rn → ∀ (ls : Array Slot), lv_has ls 4 [(2, .int (nI i)), (1, .int (nI (gCs fk cn i))), (0, .ref h)] → W p l e (headSpec wsX0_coilSteps ({ frames := 1, cells := 0, slots := 0, locals := 21 })).room s m ([.ref h] : List Value).toArray below meth c s.heap [] 0 0 (MQ below (QcRead (nI (gCs fk cn rn))) ([.ref h] : List Value).toArray s 0 0 (fun _ => False)) (F0 m 4 ls []) := by
    intro n
    induction n with
    | zero =>
      intro i hi ls hl
      refine lv_iload_n hx hb dX0_coilSteps_4 rfl (lv_at hl 0 rfl) ?_
      refine lv_aload_n hx hb dX0_coilSteps_5 rfl (lv_at hl 2 rfl) ?_
      refine va_get (D := (dC, dI)) (ci := 0) (v := .int (nI rn)) (C := RX0) (T := TX0) (N := 9) hx hb hts hin0 hown hK hP 0 rfl rfl 6 (by decide) lk28 (fun _ h9 => h9) rfl dX0_coilSteps_6 ?_
      refine gz_icmp_ge (tgt := 49) (za := ((i : Nat) : Int)) (zb := ((rn : Nat) : Int)) hx hb dX0_coilSteps_9 (by decide) (nI_toInt (by omega)) (nI_toInt (by omega)) (fun c_1 => ?_) (fun c_1 => False.elim (by omega))
      refine lv_iload_n hx hb dX0_coilSteps_49 rfl (lv_at hl 1 rfl) ?_
      exact W.iret (v := nI (gCs fk cn i)) hx hb hr (fun t ht hW => ⟨(by rw [show rn = i by omega]), ht⟩) (fun q h => absurd h List.not_mem_nil) dX0_coilSteps_50
    | succ n ih =>
      intro i hi ls hl
      have hki : vp_in (fk (i * 12 + (cn - 1))) 10 := hkI _ (by omega)
      have hst : gCs fk cn (i + 1) = (if 6 ≤ (fk (i * 12 + (cn - 1))).toInt then gCs fk cn i + ksN (fk (i * 12 + (cn - 1))).toNatClampNeg else gCs fk cn i) := rfl
      by_cases hco : 6 ≤ (fk (i * 12 + (cn - 1))).toInt
      · skip
        refine lv_iload_n hx hb dX0_coilSteps_4 rfl (lv_at hl 0 rfl) ?_
        refine lv_aload_n hx hb dX0_coilSteps_5 rfl (lv_at hl 2 rfl) ?_
        refine va_get (D := (dC, dI)) (ci := 0) (v := .int (nI rn)) (C := RX0) (T := TX0) (N := 9) hx hb hts hin0 hown hK hP 0 rfl rfl 6 (by decide) lk28 (fun _ h9 => h9) rfl dX0_coilSteps_6 ?_
        refine gz_icmp_ge (tgt := 49) (za := ((i : Nat) : Int)) (zb := ((rn : Nat) : Int)) hx hb dX0_coilSteps_9 (by decide) (nI_toInt (by omega)) (nI_toInt (by omega)) (fun c_1 => False.elim (by omega)) (fun c_1 => ?_)
        refine lv_aload_n hx hb dX0_coilSteps_12 rfl (lv_at hl 2 rfl) ?_
        refine va_get (D := (dC, dI)) (ci := 0) (v := .ref qk) (C := RX0) (T := TX0) (N := 9) hx hb hts hin0 hown hK hP 0 rfl rfl 0 (by decide) lk9 (fun _ h9 => h9) rfl dX0_coilSteps_13 ?_
        refine lv_iload_n hx hb dX0_coilSteps_16 rfl (lv_at hl 0 rfl) ?_
        refine lv_aload_n hx hb dX0_coilSteps_17 rfl (lv_at hl 2 rfl) ?_
        refine va_get (D := (dC, dI)) (ci := 0) (v := .int (nI cn)) (C := RX0) (T := TX0) (N := 9) hx hb hts hin0 hown hK hP 0 rfl rfl 7 (by decide) lk32 (fun _ h9 => h9) rfl dX0_coilSteps_18 ?_
        refine lv_iconst (v := nI 1) hx hb dX0_coilSteps_21 (by decide) ?_
        refine gz_isub (i := cn) (j := 1) hx hb dX0_coilSteps_22 (by omega) ?_
        refine gz_callR (W.runS (As := [.int (nI i), .int (nI (cn - 1))]) (rest := [.ref qk]) ⟨hx, hb, hml, hown, hts⟩ (cG_cellAt l i (cn - 1)) (va_cwS 2 hts gX0_coilSteps_X0_cellAt rfl rfl rfl (by decide +kernel) ⟨Nat.le_of_ble_eq_true rfl, Nat.le_of_ble_eq_true rfl⟩) preEq rfl rfl hl.1 rfl (lv_room (Nat.le_of_ble_eq_true rfl)) dX0_coilSteps_23 ⟨Nat.le_of_ble_eq_true rfl, Nat.le_of_ble_eq_true rfl⟩) ?_
        refine gz_iald (k := i * 12 + (cn - 1)) hx hb hK hP 1 0 rfl rfl (by omega) (by omega) dX0_coilSteps_26 ?_
        refine lv_istore_n (lv' := [(3, .int (fk (i * 12 + (cn - 1)))), (2, .int (nI i)), (1, .int (nI (gCs fk cn i))), (0, .ref h)]) hx hb dX0_coilSteps_27 rfl hl (by decide) rfl (fun ls hl => ?_)
        refine lv_iload_n hx hb dX0_coilSteps_28 rfl (lv_at hl 0 rfl) ?_
        refine gz_callR (W.runS (As := [.int (fk (i * 12 + (cn - 1)))]) (rest := []) ⟨hx, hb, hml, hown, hts⟩ (cG_isCoil l (fk (i * 12 + (cn - 1)))) (va_cwS 1 hts gX0_coilSteps_X0_isCoil rfl rfl rfl (by decide +kernel) ⟨Nat.le_of_ble_eq_true rfl, Nat.le_of_ble_eq_true rfl⟩) preEq rfl rfl hl.1 rfl (lv_room (Nat.le_of_ble_eq_true rfl)) dX0_coilSteps_29 ⟨Nat.le_of_ble_eq_true rfl, Nat.le_of_ble_eq_true rfl⟩) ?_
        refine gz_ifeqB (tgt := 43) hx hb dX0_coilSteps_32 (by decide) (fun c_2 => False.elim (c_2 hco)) (fun c_2 => ?_)
        refine lv_iload_n hx hb dX0_coilSteps_35 rfl (lv_at hl 2 rfl) ?_
        refine va_gets hx hb hZ hS0 hown lk94 (fun _ h9 => h9) dX0_coilSteps_36 ?_
        refine lv_iload_n hx hb dX0_coilSteps_39 rfl (lv_at hl 0 rfl) ?_
        refine va_ti (v := .int (nI (ksN (fk (i * 12 + (cn - 1))).toNatClampNeg))) hx hb hT hS0 hki rfl dX0_coilSteps_40 ?_
        refine gz_iadd (i := gCs fk cn i) (j := ksN (fk (i * 12 + (cn - 1))).toNatClampNeg) hx hb dX0_coilSteps_41 ?_
        refine lv_istore_n (lv' := [(1, .int (nI ((gCs fk cn i) + (ksN (fk (i * 12 + (cn - 1))).toNatClampNeg)))), (3, .int (fk (i * 12 + (cn - 1)))), (2, .int (nI i)), (0, .ref h)]) hx hb dX0_coilSteps_42 rfl hl (by decide) rfl (fun ls hl => ?_)
        refine lv_iinc (v := nI (i + 1)) (lv' := [(2, .int (nI (i + 1))), (1, .int (nI ((gCs fk cn i) + (ksN (fk (i * 12 + (cn - 1))).toNatClampNeg)))), (3, .int (fk (i * 12 + (cn - 1)))), (0, .ref h)]) hx hb dX0_coilSteps_43 hl (k := 2) rfl (nI_1 _) (by decide) rfl (fun ls hl => ?_)
        refine lv_goto (tgt := 4) hx hb dX0_coilSteps_46 (by decide) ?_
        have hl := lv_sub hl [0, 1, 3] rfl
        exact ih (i + 1) (by omega) ls (by rw [hst, if_pos hco]; exact hl)
      · skip
        refine lv_iload_n hx hb dX0_coilSteps_4 rfl (lv_at hl 0 rfl) ?_
        refine lv_aload_n hx hb dX0_coilSteps_5 rfl (lv_at hl 2 rfl) ?_
        refine va_get (D := (dC, dI)) (ci := 0) (v := .int (nI rn)) (C := RX0) (T := TX0) (N := 9) hx hb hts hin0 hown hK hP 0 rfl rfl 6 (by decide) lk28 (fun _ h9 => h9) rfl dX0_coilSteps_6 ?_
        refine gz_icmp_ge (tgt := 49) (za := ((i : Nat) : Int)) (zb := ((rn : Nat) : Int)) hx hb dX0_coilSteps_9 (by decide) (nI_toInt (by omega)) (nI_toInt (by omega)) (fun c_1 => False.elim (by omega)) (fun c_1 => ?_)
        refine lv_aload_n hx hb dX0_coilSteps_12 rfl (lv_at hl 2 rfl) ?_
        refine va_get (D := (dC, dI)) (ci := 0) (v := .ref qk) (C := RX0) (T := TX0) (N := 9) hx hb hts hin0 hown hK hP 0 rfl rfl 0 (by decide) lk9 (fun _ h9 => h9) rfl dX0_coilSteps_13 ?_
        refine lv_iload_n hx hb dX0_coilSteps_16 rfl (lv_at hl 0 rfl) ?_
        refine lv_aload_n hx hb dX0_coilSteps_17 rfl (lv_at hl 2 rfl) ?_
        refine va_get (D := (dC, dI)) (ci := 0) (v := .int (nI cn)) (C := RX0) (T := TX0) (N := 9) hx hb hts hin0 hown hK hP 0 rfl rfl 7 (by decide) lk32 (fun _ h9 => h9) rfl dX0_coilSteps_18 ?_
        refine lv_iconst (v := nI 1) hx hb dX0_coilSteps_21 (by decide) ?_
        refine gz_isub (i := cn) (j := 1) hx hb dX0_coilSteps_22 (by omega) ?_
        refine gz_callR (W.runS (As := [.int (nI i), .int (nI (cn - 1))]) (rest := [.ref qk]) ⟨hx, hb, hml, hown, hts⟩ (cG_cellAt l i (cn - 1)) (va_cwS 2 hts gX0_coilSteps_X0_cellAt rfl rfl rfl (by decide +kernel) ⟨Nat.le_of_ble_eq_true rfl, Nat.le_of_ble_eq_true rfl⟩) preEq rfl rfl hl.1 rfl (lv_room (Nat.le_of_ble_eq_true rfl)) dX0_coilSteps_23 ⟨Nat.le_of_ble_eq_true rfl, Nat.le_of_ble_eq_true rfl⟩) ?_
        refine gz_iald (k := i * 12 + (cn - 1)) hx hb hK hP 1 0 rfl rfl (by omega) (by omega) dX0_coilSteps_26 ?_
        refine lv_istore_n (lv' := [(3, .int (fk (i * 12 + (cn - 1)))), (2, .int (nI i)), (1, .int (nI (gCs fk cn i))), (0, .ref h)]) hx hb dX0_coilSteps_27 rfl hl (by decide) rfl (fun ls hl => ?_)
        refine lv_iload_n hx hb dX0_coilSteps_28 rfl (lv_at hl 0 rfl) ?_
        refine gz_callR (W.runS (As := [.int (fk (i * 12 + (cn - 1)))]) (rest := []) ⟨hx, hb, hml, hown, hts⟩ (cG_isCoil l (fk (i * 12 + (cn - 1)))) (va_cwS 1 hts gX0_coilSteps_X0_isCoil rfl rfl rfl (by decide +kernel) ⟨Nat.le_of_ble_eq_true rfl, Nat.le_of_ble_eq_true rfl⟩) preEq rfl rfl hl.1 rfl (lv_room (Nat.le_of_ble_eq_true rfl)) dX0_coilSteps_29 ⟨Nat.le_of_ble_eq_true rfl, Nat.le_of_ble_eq_true rfl⟩) ?_
        refine gz_ifeqB (tgt := 43) hx hb dX0_coilSteps_32 (by decide) (fun c_2 => ?_) (fun c_2 => False.elim (hco c_2))
        refine lv_iinc (v := nI (i + 1)) (lv' := [(2, .int (nI (i + 1))), (3, .int (fk (i * 12 + (cn - 1)))), (1, .int (nI (gCs fk cn i))), (0, .ref h)]) hx hb dX0_coilSteps_43 hl (k := 1) rfl (nI_1 _) (by decide) rfl (fun ls hl => ?_)
        refine lv_goto (tgt := 4) hx hb dX0_coilSteps_46 (by decide) ?_
        have hl := lv_sub hl [0, 2, 3] rfl
        exact ih (i + 1) (by omega) ls (by rw [hst, if_neg hco]; exact hl)
  refine lv_iconst (v := nI 0) hx hb dX0_coilSteps_0 (by decide) ?_
  refine lv_istore_n (lv' := [(1, .int (nI 0)), (0, .ref h)]) hx hb dX0_coilSteps_1 rfl hl (by decide) rfl (fun ls hl => ?_)
  refine lv_iconst (v := nI 0) hx hb dX0_coilSteps_2 (by decide) ?_
  refine lv_istore_n (lv' := [(2, .int (nI 0)), (1, .int (nI 0)), (0, .ref h)]) hx hb dX0_coilSteps_3 rfl hl (by decide) rfl (fun ls hl => ?_)
  exact loop rn 0 (by omega) ls (lv_sub hl [0, 1, 2] rfl)
set_option maxHeartbeats 4000000 in
set_option maxRecDepth 100000 in
theorem cG_steps (l : Launch) (dC : Nat → ClassId) (dI : Nat → Nat → Nat) (tK : Nat) (cA cZ : ClassId) (h qk qc qs ql qp qv : Nat) (fk fc fs fl fp fv : Nat → Int32) (rn cn : Nat) (sc : Int32)  (hrn : 1 ≤ rn ∧ rn ≤ 12) (hcn : 1 ≤ cn ∧ cn ≤ 12) (hfl : ∀ k, k < 156 → fl k = nI 0 ∨ fl k = nI 1) (hkI : ∀ k, k < 144 → vp_in (fk k) 10) : Met l yX0_steps wsX0_steps ({ frames := 2, cells := 0, slots := 0, locals := 47 }) (gPk (dC, dI) vwCl [(cA, .int), (cZ, .boolean)] tK [.ref h] (gw cA h qk qc qs ql qp qv fk fc fs fl fp fv (nI rn) (nI cn) sc)) (QcRead (nI (gSt fk fl rn cn + gCs fk cn rn))) 0 0 (fun _ => False) := by
  refine Met.ofW (cc := cX0_steps) (maxL := 3) (ret := (some .int)) (by decide) rfl ?_
  intro p e s m args below meth c s₁ B hml hv
  obtain ⟨rfl, hP, hK, hZ, hT⟩ := hv
  have hS0 : va_S (fun _ => False) s.heap s.heap [] := va_S.rf
  have hx := B.exec
  have hb := B.bytes
  have hr := B.returns
  have hts := atoms_spec (ws := wsX0_steps) B.pre
  have hown : s.vm.findClass RX0 = some m.cls := findClass_of_methodNamed B.named
  have hlocks := B.notSynchronized
  have hin0 : ∀ w ∈ u_ws RX0 TX0 9, w ∈ wsX0_steps := by decide +kernel
  have lk32 := hts (.fieldLink RX0 32 "LadderGrid" "columns" "I") (by decide +kernel)
  have hl := lv_entry ([.ref h]) (n := 3) (Nat.le_of_ble_eq_true rfl)
  rw [lg_entry_eq]
  generalize (lg_sl ([.ref h]) ++ List.replicate (3 - (lg_sl ([.ref h])).length) Slot.unset).toArray = ls at hl ⊢
  have hl : lv_has ls 3 [(0, .ref h)] := hl
  have loop : ∀ (n : Nat) (j : Nat), j + n = cn → ∀ (ls : Array Slot), lv_has ls 3 [(2, .int (nI (j + 1))), (1, .int (nI (gSt fk fl rn j))), (0, .ref h)] → W p l e (headSpec wsX0_steps ({ frames := 2, cells := 0, slots := 0, locals := 47 })).room s m ([.ref h] : List Value).toArray below meth c s.heap [] 0 0 (MQ below (QcRead (nI (gSt fk fl rn cn + gCs fk cn rn))) ([.ref h] : List Value).toArray s 0 0 (fun _ => False)) (F0 m 4 ls []) := by
    intro n
    induction n with
    | zero =>
      intro j hj ls hl
      refine lv_iload_n hx hb dX0_steps_4 rfl (lv_at hl 0 rfl) ?_
      refine lv_aload_n hx hb dX0_steps_5 rfl (lv_at hl 2 rfl) ?_
      refine va_get (D := (dC, dI)) (ci := 0) (v := .int (nI cn)) (C := RX0) (T := TX0) (N := 9) hx hb hts hin0 hown hK hP 0 rfl rfl 7 (by decide) lk32 (fun _ h9 => h9) rfl dX0_steps_6 ?_
      refine gz_icmp_gt (tgt := 26) (za := ((j + 1 : Nat) : Int)) (zb := ((cn : Nat) : Int)) hx hb dX0_steps_9 (by decide) (nI_toInt (by omega)) (nI_toInt (by omega)) (fun c_1 => ?_) (fun c_1 => False.elim (by omega))
      refine lv_iload_n hx hb dX0_steps_26 rfl (lv_at hl 1 rfl) ?_
      refine lv_aload_n hx hb dX0_steps_27 rfl (lv_at hl 2 rfl) ?_
      refine gz_callR (W.runV (As := []) (rest := [.int (nI (gSt fk fl rn j))]) ⟨hx, hb, hml, hown, hts⟩ (cG_coilSteps l dC dI tK cA cZ h qk qc qs ql qp qv fk fc fs fl fp fv rn cn sc hrn hcn hkI) (cwV 0 hts gX0_steps_X0_coilSteps rfl rfl rfl (by decide +kernel) ⟨Nat.le_of_ble_eq_true rfl, Nat.le_of_ble_eq_true rfl⟩) (gz_preVs (q := (RX0, TX0, 9)) (ci := 0) hK hP hZ hT [0, 1, 2, 3, 4, 5, 6] rfl rfl rfl) rfl rfl hl.1 rfl (lv_room (Nat.le_of_ble_eq_true rfl)) dX0_steps_28 ⟨Nat.le_of_ble_eq_true rfl, Nat.le_of_ble_eq_true rfl⟩) ?_
      refine gz_iadd (i := gSt fk fl rn j) (j := gCs fk cn rn) hx hb dX0_steps_31 ?_
      exact W.iret (v := nI ((gSt fk fl rn j) + (gCs fk cn rn))) hx hb hr (fun t ht hW => ⟨(by rw [show j = cn by omega]), ht⟩) (fun q h => absurd h List.not_mem_nil) dX0_steps_32
    | succ n ih =>
      intro j hj ls hl
      refine lv_iload_n hx hb dX0_steps_4 rfl (lv_at hl 0 rfl) ?_
      refine lv_aload_n hx hb dX0_steps_5 rfl (lv_at hl 2 rfl) ?_
      refine va_get (D := (dC, dI)) (ci := 0) (v := .int (nI cn)) (C := RX0) (T := TX0) (N := 9) hx hb hts hin0 hown hK hP 0 rfl rfl 7 (by decide) lk32 (fun _ h9 => h9) rfl dX0_steps_6 ?_
      refine gz_icmp_gt (tgt := 26) (za := ((j + 1 : Nat) : Int)) (zb := ((cn : Nat) : Int)) hx hb dX0_steps_9 (by decide) (nI_toInt (by omega)) (nI_toInt (by omega)) (fun c_1 => False.elim (by omega)) (fun c_1 => ?_)
      refine lv_iload_n hx hb dX0_steps_12 rfl (lv_at hl 1 rfl) ?_
      refine lv_aload_n hx hb dX0_steps_13 rfl (lv_at hl 2 rfl) ?_
      refine lv_iload_n hx hb dX0_steps_14 rfl (lv_at hl 0 rfl) ?_
      refine gz_callR (W.runV (As := [.int (nI (j + 1))]) (rest := [.int (nI (gSt fk fl rn j))]) ⟨hx, hb, hml, hown, hts⟩ (cG_lineSteps l dC dI tK cA cZ h qk qc qs ql qp qv fk fc fs fl fp fv rn cn sc (j + 1) hrn hcn (by omega) hfl hkI) (cwV 1 hts gX0_steps_X0_lineSteps rfl rfl rfl (by decide +kernel) ⟨Nat.le_of_ble_eq_true rfl, Nat.le_of_ble_eq_true rfl⟩) (gz_preVs (q := (RX0, TX0, 9)) (ci := 0) hK hP hZ hT [0, 1, 2, 3, 4, 5, 6] rfl rfl rfl) rfl rfl hl.1 rfl (lv_room (Nat.le_of_ble_eq_true rfl)) dX0_steps_15 ⟨Nat.le_of_ble_eq_true rfl, Nat.le_of_ble_eq_true rfl⟩) ?_
      refine gz_iadd (i := gSt fk fl rn j) (j := (gLs fk fl (j + 1) rn).1) hx hb dX0_steps_18 ?_
      refine lv_istore_n (lv' := [(1, .int (nI ((gSt fk fl rn j) + ((gLs fk fl (j + 1) rn).1)))), (2, .int (nI (j + 1))), (0, .ref h)]) hx hb dX0_steps_19 rfl hl (by decide) rfl (fun ls hl => ?_)
      refine lv_iinc (v := nI (j + 1 + 1)) (lv' := [(2, .int (nI (j + 1 + 1))), (1, .int (nI ((gSt fk fl rn j) + ((gLs fk fl (j + 1) rn).1)))), (0, .ref h)]) hx hb dX0_steps_20 hl (k := 1) rfl (nI_1 _) (by decide) rfl (fun ls hl => ?_)
      refine lv_goto (tgt := 4) hx hb dX0_steps_23 (by decide) ?_
      exact ih (j + 1) (by omega) ls (lv_sub hl [0, 1, 2] rfl)
  refine lv_iconst (v := nI 0) hx hb dX0_steps_0 (by decide) ?_
  refine lv_istore_n (lv' := [(1, .int (nI 0)), (0, .ref h)]) hx hb dX0_steps_1 rfl hl (by decide) rfl (fun ls hl => ?_)
  refine lv_iconst (v := nI 1) hx hb dX0_steps_2 (by decide) ?_
  refine lv_istore_n (lv' := [(2, .int (nI 1)), (1, .int (nI 0)), (0, .ref h)]) hx hb dX0_steps_3 rfl hl (by decide) rfl (fun ls hl => ?_)
  exact loop cn 0 (by omega) ls (lv_sub hl [0, 1, 2] rfl)
end
section
set_option maxHeartbeats 4000000 in
set_option maxRecDepth 100000 in
theorem cJ_fill (l : Launch) (dC : Nat → ClassId) (dI : Nat → Nat → Nat) (sz : Nat) (cA cZ : ClassId) (aa N : Nat) (f : Nat → Int32) (x : Int32) (hN : N < 2000) : Met l yJ7_fill_53178 wsJ7_fill_53178 ({ frames := 0, cells := 0, slots := 0, locals := 0 }) (gPw (dC, dI) vwCl [(cA, .int), (cZ, .boolean)] [.ref aa, .int x] sz [(aa, .inl (cA, N, .inl f))]) (gVA (dC, dI) vwCl [(cA, .int), (cZ, .boolean)] (va_A [(aa, .inl (cA, N, .inl f))] sz) [(aa, .inl (cA, N, .inl (fun _ => x)))]) 0 0 (va_A [(aa, .inl (cA, N, .inl f))] sz) := by
  refine Met.ofW (cc := cJ7_fill_53178) (maxL := 4) (ret := none) (by decide) rfl ?_
  intro p e s m args below meth c s₁ B hml hv
  obtain ⟨rfl, hsz, hP, hK, hD0⟩ := hv
  have hx := B.exec
  have hb := B.bytes
  have hr := B.returns
  have hts := atoms_spec (ws := wsJ7_fill_53178) B.pre
  have hown : s.vm.findClass RJ7 = some m.cls := findClass_of_methodNamed B.named
  have hlocks := B.notSynchronized
  subst hsz
  have hD := hD0.self (sz := s.heap.size)
  generalize hAe : va_A [(aa, .inl (cA, N, .inl f))] s.heap.size = A at hD ⊢
  have hA : ∀ q : Nat, s.heap.size ≤ q → A q := fun q h => by rw [← hAe]; exact Or.inr h
  have hS : va_S A s.heap s.heap [] := va_S.rf
  have hl := lv_entry ([.ref aa, .int x]) (n := 4) (Nat.le_of_ble_eq_true rfl)
  rw [lg_entry_eq]
  generalize (lg_sl ([.ref aa, .int x]) ++ List.replicate (4 - (lg_sl ([.ref aa, .int x])).length) Slot.unset).toArray = ls at hl ⊢
  have hl : lv_has ls 4 [(0, .ref aa), (1, .int (x))] := hl
  suffices key : ∀ (H : Heap) (locs : List Loc), va_P (dC, dI) vwCl [(aa, .inl (cA, N, .inl f))] H → va_D A [(aa, .inl (cA, N, .inl f))] → va_S A s.heap H locs → W p l e (headSpec wsJ7_fill_53178 ({ frames := 0, cells := 0, slots := 0, locals := 0 })).room s m ([.ref aa, .int x] : List Value).toArray below meth c H locs 0 0 (MQ below (gVA (dC, dI) vwCl [(cA, .int), (cZ, .boolean)] A [(aa, .inl (cA, N, .inl (fun _ => x)))]) ([.ref aa, .int x] : List Value).toArray s 0 0 A) (F0 m 0 ls []) from key s.heap [] hP hD hS
  clear hP hD hS
  intro H locs hP hD hS
  have loop : ∀ (n : Nat) (i : Nat), i + n = N → ∀ (H : Heap) (locs : List Loc), va_P (dC, dI) vwCl [(aa, .inl (cA, N, .inl (gFill f x i)))] H → va_D A [(aa, .inl (cA, N, .inl (gFill f x i)))] → va_S A s.heap H locs → ∀ (ls : Array Slot), lv_has ls 4 [(2, .int (nI i)), (3, .int (nI N)), (0, .ref aa), (1, .int (x))] → W p l e (headSpec wsJ7_fill_53178 ({ frames := 0, cells := 0, slots := 0, locals := 0 })).room s m ([.ref aa, .int x] : List Value).toArray below meth c H locs 0 0 (MQ below (gVA (dC, dI) vwCl [(cA, .int), (cZ, .boolean)] A [(aa, .inl (cA, N, .inl (fun _ => x)))]) ([.ref aa, .int x] : List Value).toArray s 0 0 A) (F0 m 5 ls []) := by
    intro n
    induction n with
    | zero =>
      intro i hi H locs hP hD hS ls hl
      refine lv_iload_n hx hb dJ7_fill_53178_5 rfl (lv_at hl 0 rfl) ?_
      refine lv_iload_n hx hb dJ7_fill_53178_6 rfl (lv_at hl 1 rfl) ?_
      refine gz_icmp_ge (tgt := 20) (za := ((i : Nat) : Int)) (zb := ((N : Nat) : Int)) hx hb dJ7_fill_53178_7 (by decide) (nI_toInt (by omega)) (nI_toInt (by omega)) (fun c_1 => ?_) (fun c_1 => False.elim (by omega))
      exact W.vret hx hb hr (fun t ht hW => ⟨⟨(), rfl, trivial, by rw [ht]; exact (gz_setext hP 0 rfl (fun j hj => gFill_in f x i j (by omega))), va_K.moved hW.alike hK, (va_D.set (p := 0) hD rfl)⟩, hS.F ht⟩) hS.2.2 dJ7_fill_53178_20
    | succ n ih =>
      intro i hi H locs hP hD hS ls hl
      refine lv_iload_n hx hb dJ7_fill_53178_5 rfl (lv_at hl 0 rfl) ?_
      refine lv_iload_n hx hb dJ7_fill_53178_6 rfl (lv_at hl 1 rfl) ?_
      refine gz_icmp_ge (tgt := 20) (za := ((i : Nat) : Int)) (zb := ((N : Nat) : Int)) hx hb dJ7_fill_53178_7 (by decide) (nI_toInt (by omega)) (nI_toInt (by omega)) (fun c_1 => False.elim (by omega)) (fun c_1 => ?_)
      refine lv_aload_n hx hb dJ7_fill_53178_10 rfl (lv_at hl 2 rfl) ?_
      refine lv_iload_n hx hb dJ7_fill_53178_11 rfl (lv_at hl 0 rfl) ?_
      refine lv_iload_n hx hb dJ7_fill_53178_12 rfl (lv_at hl 3 rfl) ?_
      refine gz_iast (k := i) hx hb hK hP hD hS 0 0 rfl rfl (by omega) (by omega) dJ7_fill_53178_13 (fun H locs hP hD hS => ?_)
      have hP : va_P (dC, dI) vwCl [(aa, .inl (cA, N, .inl (upd (gFill f x i) i x)))] H := hP
      have hD : va_D A [(aa, .inl (cA, N, .inl (upd (gFill f x i) i x)))] := hD
      refine lv_iinc (v := nI (i + 1)) (lv' := [(2, .int (nI (i + 1))), (3, .int (nI N)), (0, .ref aa), (1, .int (x))]) hx hb dJ7_fill_53178_14 hl (k := 0) rfl (nI_1 _) (by decide) rfl (fun ls hl => ?_)
      refine lv_goto (tgt := 5) hx hb dJ7_fill_53178_17 (by decide) ?_
      exact ih (i + 1) (by omega) H locs hP hD hS ls (lv_sub hl [0, 1, 2, 3] rfl)
  refine lv_iconst (v := nI 0) hx hb dJ7_fill_53178_0 (by decide) ?_
  refine lv_istore_n (lv' := [(2, .int (nI 0)), (0, .ref aa), (1, .int (x))]) hx hb dJ7_fill_53178_1 rfl hl (by decide) rfl (fun ls hl => ?_)
  refine lv_aload_n hx hb dJ7_fill_53178_2 rfl (lv_at hl 1 rfl) ?_
  refine va_alen (v := nI N) hx hb hK hP 0 0 rfl rfl rfl dJ7_fill_53178_3 ?_
  refine lv_istore_n (lv' := [(3, .int (nI N)), (2, .int (nI 0)), (0, .ref aa), (1, .int (x))]) hx hb dJ7_fill_53178_4 rfl hl (by decide) rfl (fun ls hl => ?_)
  exact loop N 0 (by omega) H locs hP hD hS ls (lv_sub hl [1, 0, 2, 3] rfl)
set_option maxHeartbeats 4000000 in
set_option maxRecDepth 100000 in
theorem cG_begin (l : Launch) (dC : Nat → ClassId) (dI : Nat → Nat → Nat) (sz : Nat) (cA cZ : ClassId) (h qk qc qs ql qp qv : Nat) (fk fc fs fl fp fv : Nat → Int32) (rn cn : Nat) (sc : Int32) (i j : Nat) (hrn : 1 ≤ rn ∧ rn ≤ 12) (hcn : 1 ≤ cn ∧ cn ≤ 12) (hi : 1 ≤ i ∧ i ≤ 12) (hj : 1 ≤ j ∧ j ≤ 12) : Met l yX0_begin wsX0_begin ({ frames := 1, cells := 0, slots := 0, locals := 23 }) (gPw (dC, dI) vwCl [(cA, .int), (cZ, .boolean)] [.ref h, .int (nI i), .int (nI j)] sz (gw cA h qk qc qs ql qp qv fk fc fs fl fp fv (nI rn) (nI cn) sc)) (gQA (dC, dI) vwCl [(cA, .int), (cZ, .boolean)] (nI 0) (va_A (gw cA h qk qc qs ql qp qv fk fc fs fl fp fv (nI rn) (nI cn) sc) sz) (gw cA h qk qc qs ql qp qv (fun _ => nI 0) (fun _ => nI 0) (fun _ => nI 0) (fun _ => nI 0) fp fv (nI i) (nI j) (nI 0))) 0 0 (va_A (gw cA h qk qc qs ql qp qv fk fc fs fl fp fv (nI rn) (nI cn) sc) sz) := by
  refine Met.ofW (cc := cX0_begin) (maxL := 3) (ret := (some .int)) (by decide) rfl ?_
  intro p e s m args below meth c s₁ B hml hv
  obtain ⟨rfl, hsz, hP, hK, hD0⟩ := hv
  have hx := B.exec
  have hb := B.bytes
  have hr := B.returns
  have hts := atoms_spec (ws := wsX0_begin) B.pre
  have hown : s.vm.findClass RX0 = some m.cls := findClass_of_methodNamed B.named
  have hlocks := B.notSynchronized
  subst hsz
  have hD := hD0.self (sz := s.heap.size)
  generalize hAe : va_A (gw cA h qk qc qs ql qp qv fk fc fs fl fp fv (nI rn) (nI cn) sc) s.heap.size = A at hD ⊢
  have hA : ∀ q : Nat, s.heap.size ≤ q → A q := fun q h => by rw [← hAe]; exact Or.inr h
  have hS : va_S A s.heap s.heap [] := va_S.rf
  have hin0 : ∀ w ∈ u_ws RX0 TX0 9, w ∈ wsX0_begin := by decide +kernel
  have lk28 := hts (.fieldLink RX0 28 "LadderGrid" "rows" "I") (by decide +kernel)
  have lk32 := hts (.fieldLink RX0 32 "LadderGrid" "columns" "I") (by decide +kernel)
  have lk9 := hts (.fieldLink RX0 9 "LadderGrid" "kinds" "[I") (by decide +kernel)
  have lk13 := hts (.fieldLink RX0 13 "LadderGrid" "cellVariables" "[I") (by decide +kernel)
  have lk16 := hts (.fieldLink RX0 16 "LadderGrid" "seen" "[I") (by decide +kernel)
  have lk19 := hts (.fieldLink RX0 19 "LadderGrid" "links" "[I") (by decide +kernel)
  have lk35 := hts (.fieldLink RX0 35 "LadderGrid" "scanned" "Z") (by decide +kernel)
  have hl := lv_entry ([.ref h, .int (nI i), .int (nI j)]) (n := 3) (Nat.le_of_ble_eq_true rfl)
  rw [lg_entry_eq]
  generalize (lg_sl ([.ref h, .int (nI i), .int (nI j)]) ++ List.replicate (3 - (lg_sl ([.ref h, .int (nI i), .int (nI j)])).length) Slot.unset).toArray = ls at hl ⊢
  have hl : lv_has ls 3 [(0, .ref h), (1, .int (nI i)), (2, .int (nI j))] := hl
  suffices key : ∀ (H : Heap) (locs : List Loc), va_P (dC, dI) vwCl (gw cA h qk qc qs ql qp qv fk fc fs fl fp fv (nI rn) (nI cn) sc) H → va_D A (gw cA h qk qc qs ql qp qv fk fc fs fl fp fv (nI rn) (nI cn) sc) → va_S A s.heap H locs → W p l e (headSpec wsX0_begin ({ frames := 1, cells := 0, slots := 0, locals := 23 })).room s m ([.ref h, .int (nI i), .int (nI j)] : List Value).toArray below meth c H locs 0 0 (MQ below (gQA (dC, dI) vwCl [(cA, .int), (cZ, .boolean)] (nI 0) A (gw cA h qk qc qs ql qp qv (fun _ => nI 0) (fun _ => nI 0) (fun _ => nI 0) (fun _ => nI 0) fp fv (nI i) (nI j) (nI 0))) ([.ref h, .int (nI i), .int (nI j)] : List Value).toArray s 0 0 A) (F0 m 0 ls []) from key s.heap [] hP hD hS
  clear hP hD hS
  intro H locs hP hD hS
  refine lv_iload_n hx hb dX0_begin_0 rfl (lv_at hl 1 rfl) ?_
  refine lv_iconst (v := nI 1) hx hb dX0_begin_1 (by decide) ?_
  refine gz_icmp_lt (tgt := 22) (za := ((i : Nat) : Int)) (zb := ((1 : Nat) : Int)) hx hb dX0_begin_2 (by decide) (nI_toInt (by omega)) (nI_toInt (by omega)) (fun c_1 => False.elim (by omega)) (fun c_1 => ?_)
  refine lv_iload_n hx hb dX0_begin_5 rfl (lv_at hl 1 rfl) ?_
  refine lv_bipush (v := nI 12) hx hb dX0_begin_6 (by decide) ?_
  refine gz_icmp_gt (tgt := 22) (za := ((i : Nat) : Int)) (zb := ((12 : Nat) : Int)) hx hb dX0_begin_8 (by decide) (nI_toInt (by omega)) (nI_toInt (by omega)) (fun c_2 => False.elim (by omega)) (fun c_2 => ?_)
  refine lv_iload_n hx hb dX0_begin_11 rfl (lv_at hl 2 rfl) ?_
  refine lv_iconst (v := nI 1) hx hb dX0_begin_12 (by decide) ?_
  refine gz_icmp_lt (tgt := 22) (za := ((j : Nat) : Int)) (zb := ((1 : Nat) : Int)) hx hb dX0_begin_13 (by decide) (nI_toInt (by omega)) (nI_toInt (by omega)) (fun c_3 => False.elim (by omega)) (fun c_3 => ?_)
  refine lv_iload_n hx hb dX0_begin_16 rfl (lv_at hl 2 rfl) ?_
  refine lv_bipush (v := nI 12) hx hb dX0_begin_17 (by decide) ?_
  refine gz_icmp_le (tgt := 24) (za := ((j : Nat) : Int)) (zb := ((12 : Nat) : Int)) hx hb dX0_begin_19 (by decide) (nI_toInt (by omega)) (nI_toInt (by omega)) (fun c_4 => ?_) (fun c_4 => False.elim (by omega))
  refine lv_aload_n hx hb dX0_begin_24 rfl (lv_at hl 0 rfl) ?_
  refine lv_iload_n hx hb dX0_begin_25 rfl (lv_at hl 1 rfl) ?_
  refine va_put (D := (dC, dI)) (ci := 0) (v := .int (nI i)) (ty := .int) (C := RX0) (T := TX0) (N := 9) hx hb hts hin0 tyX0 tyX0_ok nmX0 hown hK hP hD hS 0 rfl rfl 6 (by decide) lk28 (fun _ h9 => h9) rfl (by decide +kernel) rfl rfl (Nat.le_of_ble_eq_true rfl) dX0_begin_26 (fun H locs hP hD hS => ?_)
  have hP : va_P (dC, dI) vwCl (gw cA h qk qc qs ql qp qv fk fc fs fl fp fv (nI i) (nI cn) sc) H := hP
  have hD : va_D A (gw cA h qk qc qs ql qp qv fk fc fs fl fp fv (nI i) (nI cn) sc) := hD
  refine lv_aload_n hx hb dX0_begin_29 rfl (lv_at hl 0 rfl) ?_
  refine lv_iload_n hx hb dX0_begin_30 rfl (lv_at hl 2 rfl) ?_
  refine va_put (D := (dC, dI)) (ci := 0) (v := .int (nI j)) (ty := .int) (C := RX0) (T := TX0) (N := 9) hx hb hts hin0 tyX0 tyX0_ok nmX0 hown hK hP hD hS 0 rfl rfl 7 (by decide) lk32 (fun _ h9 => h9) rfl (by decide +kernel) rfl rfl (Nat.le_of_ble_eq_true rfl) dX0_begin_31 (fun H locs hP hD hS => ?_)
  have hP : va_P (dC, dI) vwCl (gw cA h qk qc qs ql qp qv fk fc fs fl fp fv (nI i) (nI j) sc) H := hP
  have hD : va_D A (gw cA h qk qc qs ql qp qv fk fc fs fl fp fv (nI i) (nI j) sc) := hD
  refine lv_aload_n hx hb dX0_begin_34 rfl (lv_at hl 0 rfl) ?_
  refine va_get (D := (dC, dI)) (ci := 0) (v := .ref qk) (C := RX0) (T := TX0) (N := 9) hx hb hts hin0 hown hK hP 0 rfl rfl 0 (by decide) lk9 (fun _ h9 => h9) rfl dX0_begin_35 ?_
  refine lv_iconst (v := nI 0) hx hb dX0_begin_38 (by decide) ?_
  refine gz_callv (wc := [(qk, .inl (cA, 144, .inl fk))]) (wr := [(h, .inr (0, [.ref qk, .ref qc, .ref qs, .ref ql, .ref qp, .ref qv, .int (nI i), .int (nI j), .int (sc)])), (qc, .inl (cA, 144, .inl fc)), (qs, .inl (cA, 144, .inl fs)), (ql, .inl (cA, 156, .inl fl)), (qp, .inl (cA, 156, .inl fp)), (qv, .inl (cA, 40, .inl fv))]) hP hD hS hA [1] [0, 2, 3, 4, 5, 6] rfl rfl (by decide) (by decide) (va_runS (As := [.ref qk, .int (nI 0)]) (rest := []) ⟨hx, hb, hml, hown, hts⟩ (cJ_fill l dC dI H.size cA cZ qk 144 fk (nI 0) (by decide)) (va_cwS 2 hts gX0_begin_J7_fill_53178 rfl rfl rfl (by decide +kernel) ⟨Nat.le_of_ble_eq_true rfl, Nat.le_of_ble_eq_true rfl⟩) (gz_preSw hK hP hD [1] (by decide) rfl rfl) rfl rfl hl.1 rfl (lv_room (Nat.le_of_ble_eq_true rfl)) dX0_begin_39 ⟨Nat.le_of_ble_eq_true rfl, Nat.le_of_ble_eq_true rfl⟩) (fun H locs hP hD hS => ?_)
  have hP := hP.sub (ws' := (gw cA h qk qc qs ql qp qv (fun _ => nI 0) fc fs fl fp fv (nI i) (nI j) sc)) [0, 6, 1, 2, 3, 4, 5] rfl
  have hD := hD.sub (ws' := (gw cA h qk qc qs ql qp qv (fun _ => nI 0) fc fs fl fp fv (nI i) (nI j) sc)) [0, 6, 1, 2, 3, 4, 5] (by decide) rfl
  refine lv_aload_n hx hb dX0_begin_42 rfl (lv_at hl 0 rfl) ?_
  refine va_get (D := (dC, dI)) (ci := 0) (v := .ref qc) (C := RX0) (T := TX0) (N := 9) hx hb hts hin0 hown hK hP 0 rfl rfl 1 (by decide) lk13 (fun _ h9 => h9) rfl dX0_begin_43 ?_
  refine lv_iconst (v := nI 0) hx hb dX0_begin_46 (by decide) ?_
  refine gz_callv (wc := [(qc, .inl (cA, 144, .inl fc))]) (wr := [(h, .inr (0, [.ref qk, .ref qc, .ref qs, .ref ql, .ref qp, .ref qv, .int (nI i), .int (nI j), .int (sc)])), (qk, .inl (cA, 144, .inl (fun _ => nI 0))), (qs, .inl (cA, 144, .inl fs)), (ql, .inl (cA, 156, .inl fl)), (qp, .inl (cA, 156, .inl fp)), (qv, .inl (cA, 40, .inl fv))]) hP hD hS hA [2] [0, 1, 3, 4, 5, 6] rfl rfl (by decide) (by decide) (va_runS (As := [.ref qc, .int (nI 0)]) (rest := []) ⟨hx, hb, hml, hown, hts⟩ (cJ_fill l dC dI H.size cA cZ qc 144 fc (nI 0) (by decide)) (va_cwS 2 hts gX0_begin_J7_fill_53178 rfl rfl rfl (by decide +kernel) ⟨Nat.le_of_ble_eq_true rfl, Nat.le_of_ble_eq_true rfl⟩) (gz_preSw hK hP hD [2] (by decide) rfl rfl) rfl rfl hl.1 rfl (lv_room (Nat.le_of_ble_eq_true rfl)) dX0_begin_47 ⟨Nat.le_of_ble_eq_true rfl, Nat.le_of_ble_eq_true rfl⟩) (fun H locs hP hD hS => ?_)
  have hP := hP.sub (ws' := (gw cA h qk qc qs ql qp qv (fun _ => nI 0) (fun _ => nI 0) fs fl fp fv (nI i) (nI j) sc)) [0, 1, 6, 2, 3, 4, 5] rfl
  have hD := hD.sub (ws' := (gw cA h qk qc qs ql qp qv (fun _ => nI 0) (fun _ => nI 0) fs fl fp fv (nI i) (nI j) sc)) [0, 1, 6, 2, 3, 4, 5] (by decide) rfl
  refine lv_aload_n hx hb dX0_begin_50 rfl (lv_at hl 0 rfl) ?_
  refine va_get (D := (dC, dI)) (ci := 0) (v := .ref qs) (C := RX0) (T := TX0) (N := 9) hx hb hts hin0 hown hK hP 0 rfl rfl 2 (by decide) lk16 (fun _ h9 => h9) rfl dX0_begin_51 ?_
  refine lv_iconst (v := nI 0) hx hb dX0_begin_54 (by decide) ?_
  refine gz_callv (wc := [(qs, .inl (cA, 144, .inl fs))]) (wr := [(h, .inr (0, [.ref qk, .ref qc, .ref qs, .ref ql, .ref qp, .ref qv, .int (nI i), .int (nI j), .int (sc)])), (qk, .inl (cA, 144, .inl (fun _ => nI 0))), (qc, .inl (cA, 144, .inl (fun _ => nI 0))), (ql, .inl (cA, 156, .inl fl)), (qp, .inl (cA, 156, .inl fp)), (qv, .inl (cA, 40, .inl fv))]) hP hD hS hA [3] [0, 1, 2, 4, 5, 6] rfl rfl (by decide) (by decide) (va_runS (As := [.ref qs, .int (nI 0)]) (rest := []) ⟨hx, hb, hml, hown, hts⟩ (cJ_fill l dC dI H.size cA cZ qs 144 fs (nI 0) (by decide)) (va_cwS 2 hts gX0_begin_J7_fill_53178 rfl rfl rfl (by decide +kernel) ⟨Nat.le_of_ble_eq_true rfl, Nat.le_of_ble_eq_true rfl⟩) (gz_preSw hK hP hD [3] (by decide) rfl rfl) rfl rfl hl.1 rfl (lv_room (Nat.le_of_ble_eq_true rfl)) dX0_begin_55 ⟨Nat.le_of_ble_eq_true rfl, Nat.le_of_ble_eq_true rfl⟩) (fun H locs hP hD hS => ?_)
  have hP := hP.sub (ws' := (gw cA h qk qc qs ql qp qv (fun _ => nI 0) (fun _ => nI 0) (fun _ => nI 0) fl fp fv (nI i) (nI j) sc)) [0, 1, 2, 6, 3, 4, 5] rfl
  have hD := hD.sub (ws' := (gw cA h qk qc qs ql qp qv (fun _ => nI 0) (fun _ => nI 0) (fun _ => nI 0) fl fp fv (nI i) (nI j) sc)) [0, 1, 2, 6, 3, 4, 5] (by decide) rfl
  refine lv_aload_n hx hb dX0_begin_58 rfl (lv_at hl 0 rfl) ?_
  refine va_get (D := (dC, dI)) (ci := 0) (v := .ref ql) (C := RX0) (T := TX0) (N := 9) hx hb hts hin0 hown hK hP 0 rfl rfl 3 (by decide) lk19 (fun _ h9 => h9) rfl dX0_begin_59 ?_
  refine lv_iconst (v := nI 0) hx hb dX0_begin_62 (by decide) ?_
  refine gz_callv (wc := [(ql, .inl (cA, 156, .inl fl))]) (wr := [(h, .inr (0, [.ref qk, .ref qc, .ref qs, .ref ql, .ref qp, .ref qv, .int (nI i), .int (nI j), .int (sc)])), (qk, .inl (cA, 144, .inl (fun _ => nI 0))), (qc, .inl (cA, 144, .inl (fun _ => nI 0))), (qs, .inl (cA, 144, .inl (fun _ => nI 0))), (qp, .inl (cA, 156, .inl fp)), (qv, .inl (cA, 40, .inl fv))]) hP hD hS hA [4] [0, 1, 2, 3, 5, 6] rfl rfl (by decide) (by decide) (va_runS (As := [.ref ql, .int (nI 0)]) (rest := []) ⟨hx, hb, hml, hown, hts⟩ (cJ_fill l dC dI H.size cA cZ ql 156 fl (nI 0) (by decide)) (va_cwS 2 hts gX0_begin_J7_fill_53178 rfl rfl rfl (by decide +kernel) ⟨Nat.le_of_ble_eq_true rfl, Nat.le_of_ble_eq_true rfl⟩) (gz_preSw hK hP hD [4] (by decide) rfl rfl) rfl rfl hl.1 rfl (lv_room (Nat.le_of_ble_eq_true rfl)) dX0_begin_63 ⟨Nat.le_of_ble_eq_true rfl, Nat.le_of_ble_eq_true rfl⟩) (fun H locs hP hD hS => ?_)
  have hP := hP.sub (ws' := (gw cA h qk qc qs ql qp qv (fun _ => nI 0) (fun _ => nI 0) (fun _ => nI 0) (fun _ => nI 0) fp fv (nI i) (nI j) sc)) [0, 1, 2, 3, 6, 4, 5] rfl
  have hD := hD.sub (ws' := (gw cA h qk qc qs ql qp qv (fun _ => nI 0) (fun _ => nI 0) (fun _ => nI 0) (fun _ => nI 0) fp fv (nI i) (nI j) sc)) [0, 1, 2, 3, 6, 4, 5] (by decide) rfl
  refine lv_aload_n hx hb dX0_begin_66 rfl (lv_at hl 0 rfl) ?_
  refine lv_iconst (v := nI 0) hx hb dX0_begin_67 (by decide) ?_
  refine va_put (D := (dC, dI)) (ci := 0) (v := .int (nI 0)) (ty := .boolean) (C := RX0) (T := TX0) (N := 9) hx hb hts hin0 tyX0 tyX0_ok nmX0 hown hK hP hD hS 0 rfl rfl 8 (by decide) lk35 (fun _ h9 => h9) rfl (by decide +kernel) rfl rfl (Nat.le_of_ble_eq_true rfl) dX0_begin_68 (fun H locs hP hD hS => ?_)
  have hP : va_P (dC, dI) vwCl (gw cA h qk qc qs ql qp qv (fun _ => nI 0) (fun _ => nI 0) (fun _ => nI 0) (fun _ => nI 0) fp fv (nI i) (nI j) (nI 0)) H := hP
  have hD : va_D A (gw cA h qk qc qs ql qp qv (fun _ => nI 0) (fun _ => nI 0) (fun _ => nI 0) (fun _ => nI 0) fp fv (nI i) (nI j) (nI 0)) := hD
  refine lv_iconst (v := nI 0) hx hb dX0_begin_71 (by decide) ?_
  exact W.iret (v := nI 0) hx hb hr (fun t ht hW => ⟨⟨nI 0, (), rfl, rfl, by rw [ht]; exact hP, va_K.moved hW.alike hK, hD⟩, hS.F ht⟩) hS.2.2 dX0_begin_72
set_option maxHeartbeats 4000000 in
set_option maxRecDepth 100000 in
theorem cG_passColumn (l : Launch) (dC : Nat → ClassId) (dI : Nat → Nat → Nat) (sz : Nat) (cA cZ : ClassId) (h qk qc qs ql qp qv : Nat) (fk fc fs fl fp fv : Nat → Int32) (rn cn : Nat) (sc : Int32) (col : Nat) (hrn : 1 ≤ rn ∧ rn ≤ 12) (hcn : 1 ≤ cn ∧ cn ≤ 12) (hco : col < cn) (hcI : ∀ k, k < 144 → vp_in (fc k) 40) : Met l yX0_passColumn wsX0_passColumn ({ frames := 1, cells := 0, slots := 0, locals := 22 }) (gPw (dC, dI) vwCl [(cA, .int), (cZ, .boolean)] [.ref h, .int (nI col)] sz (gw cA h qk qc qs ql qp qv fk fc fs fl fp fv (nI rn) (nI cn) sc)) (gVA (dC, dI) vwCl [(cA, .int), (cZ, .boolean)] (va_A (gw cA h qk qc qs ql qp qv fk fc fs fl fp fv (nI rn) (nI cn) sc) sz) (gw cA h qk qc qs ql qp qv fk fc ((gPs fk fc fv col (fp, fs) rn).2) fl ((gPs fk fc fv col (fp, fs) rn).1) fv (nI rn) (nI cn) sc)) 0 0 (va_A (gw cA h qk qc qs ql qp qv fk fc fs fl fp fv (nI rn) (nI cn) sc) sz) := by
  refine Met.ofW (cc := cX0_passColumn) (maxL := 6) (ret := none) (by decide) rfl ?_
  intro p e s m args below meth c s₁ B hml hv
  obtain ⟨rfl, hsz, hP, hK, hD0⟩ := hv
  have hx := B.exec
  have hb := B.bytes
  have hr := B.returns
  have hts := atoms_spec (ws := wsX0_passColumn) B.pre
  have hown : s.vm.findClass RX0 = some m.cls := findClass_of_methodNamed B.named
  have hlocks := B.notSynchronized
  subst hsz
  have hD := hD0.self (sz := s.heap.size)
  generalize hAe : va_A (gw cA h qk qc qs ql qp qv fk fc fs fl fp fv (nI rn) (nI cn) sc) s.heap.size = A at hD ⊢
  have hA : ∀ q : Nat, s.heap.size ≤ q → A q := fun q h => by rw [← hAe]; exact Or.inr h
  have hS : va_S A s.heap s.heap [] := va_S.rf
  have hin0 : ∀ w ∈ u_ws RX0 TX0 9, w ∈ wsX0_passColumn := by decide +kernel
  have lk28 := hts (.fieldLink RX0 28 "LadderGrid" "rows" "I") (by decide +kernel)
  have lk25 := hts (.fieldLink RX0 25 "LadderGrid" "values" "[I") (by decide +kernel)
  have lk13 := hts (.fieldLink RX0 13 "LadderGrid" "cellVariables" "[I") (by decide +kernel)
  have lk22 := hts (.fieldLink RX0 22 "LadderGrid" "powered" "[I") (by decide +kernel)
  have lk9 := hts (.fieldLink RX0 9 "LadderGrid" "kinds" "[I") (by decide +kernel)
  have lk16 := hts (.fieldLink RX0 16 "LadderGrid" "seen" "[I") (by decide +kernel)
  have hl := lv_entry ([.ref h, .int (nI col)]) (n := 6) (Nat.le_of_ble_eq_true rfl)
  rw [lg_entry_eq]
  generalize (lg_sl ([.ref h, .int (nI col)]) ++ List.replicate (6 - (lg_sl ([.ref h, .int (nI col)])).length) Slot.unset).toArray = ls at hl ⊢
  have hl : lv_has ls 6 [(0, .ref h), (1, .int (nI col))] := hl
  suffices key : ∀ (H : Heap) (locs : List Loc), va_P (dC, dI) vwCl (gw cA h qk qc qs ql qp qv fk fc fs fl fp fv (nI rn) (nI cn) sc) H → va_D A (gw cA h qk qc qs ql qp qv fk fc fs fl fp fv (nI rn) (nI cn) sc) → va_S A s.heap H locs → W p l e (headSpec wsX0_passColumn ({ frames := 1, cells := 0, slots := 0, locals := 22 })).room s m ([.ref h, .int (nI col)] : List Value).toArray below meth c H locs 0 0 (MQ below (gVA (dC, dI) vwCl [(cA, .int), (cZ, .boolean)] A (gw cA h qk qc qs ql qp qv fk fc ((gPs fk fc fv col (fp, fs) rn).2) fl ((gPs fk fc fv col (fp, fs) rn).1) fv (nI rn) (nI cn) sc)) ([.ref h, .int (nI col)] : List Value).toArray s 0 0 A) (F0 m 0 ls []) from key s.heap [] hP hD hS
  clear hP hD hS
  intro H locs hP hD hS
  have loop : ∀ (n : Nat) (i : Nat) (q : (Nat → Int32) × (Nat → Int32)), i + n = rn → q = gPs fk fc fv col (fp, fs) i → ∀ (H : Heap) (locs : List Loc), va_P (dC, dI) vwCl (gw cA h qk qc qs ql qp qv fk fc q.2 fl q.1 fv (nI rn) (nI cn) sc) H → va_D A (gw cA h qk qc qs ql qp qv fk fc q.2 fl q.1 fv (nI rn) (nI cn) sc) → va_S A s.heap H locs → ∀ (ls : Array Slot), lv_has ls 6 [(2, .int (nI i)), (0, .ref h), (1, .int (nI col))] → W p l e (headSpec wsX0_passColumn ({ frames := 1, cells := 0, slots := 0, locals := 22 })).room s m ([.ref h, .int (nI col)] : List Value).toArray below meth c H locs 0 0 (MQ below (gVA (dC, dI) vwCl [(cA, .int), (cZ, .boolean)] A (gw cA h qk qc qs ql qp qv fk fc ((gPs fk fc fv col (fp, fs) rn).2) fl ((gPs fk fc fv col (fp, fs) rn).1) fv (nI rn) (nI cn) sc)) ([.ref h, .int (nI col)] : List Value).toArray s 0 0 A) (F0 m 2 ls []) := by
    intro n
    induction n with
    | zero =>
      intro i q hi hq H locs hP hD hS ls hl
      refine lv_iload_n hx hb dX0_passColumn_2 rfl (lv_at hl 0 rfl) ?_
      refine lv_aload_n hx hb dX0_passColumn_3 rfl (lv_at hl 1 rfl) ?_
      refine va_get (D := (dC, dI)) (ci := 0) (v := .int (nI rn)) (C := RX0) (T := TX0) (N := 9) hx hb hts hin0 hown hK hP 0 rfl rfl 6 (by decide) lk28 (fun _ h9 => h9) rfl dX0_passColumn_4 ?_
      refine gz_icmp_ge (tgt := 106) (za := ((i : Nat) : Int)) (zb := ((rn : Nat) : Int)) hx hb dX0_passColumn_7 (by decide) (nI_toInt (by omega)) (nI_toInt (by omega)) (fun c_1 => ?_) (fun c_1 => False.elim (by omega))
      exact W.vret hx hb hr (fun t ht hW => ⟨⟨(), rfl, trivial, by rw [ht]; exact (by rw [show gPs fk fc fv col (fp, fs) rn = q by rw [hq, show i = rn by omega]]; exact hP), va_K.moved hW.alike hK, (by rw [show gPs fk fc fv col (fp, fs) rn = q by rw [hq, show i = rn by omega]]; exact hD)⟩, hS.F ht⟩) hS.2.2 dX0_passColumn_106
    | succ n ih =>
      intro i q hi hq H locs hP hD hS ls hl
      have hci : vp_in (fc (i * 12 + col)) 40 := hcI _ (by omega)
      by_cases hp1 : q.1 (i * 13 + col) = nI 1
      · rcases gLets_01 (fk (i * 12 + col)) (fv (fc (i * 12 + col)).toNatClampNeg) (q.2 (i * 12 + col)) with hg | hg
        · skip
          refine lv_iload_n hx hb dX0_passColumn_2 rfl (lv_at hl 0 rfl) ?_
          refine lv_aload_n hx hb dX0_passColumn_3 rfl (lv_at hl 1 rfl) ?_
          refine va_get (D := (dC, dI)) (ci := 0) (v := .int (nI rn)) (C := RX0) (T := TX0) (N := 9) hx hb hts hin0 hown hK hP 0 rfl rfl 6 (by decide) lk28 (fun _ h9 => h9) rfl dX0_passColumn_4 ?_
          refine gz_icmp_ge (tgt := 106) (za := ((i : Nat) : Int)) (zb := ((rn : Nat) : Int)) hx hb dX0_passColumn_7 (by decide) (nI_toInt (by omega)) (nI_toInt (by omega)) (fun c_1 => False.elim (by omega)) (fun c_1 => ?_)
          refine lv_iload_n hx hb dX0_passColumn_10 rfl (lv_at hl 0 rfl) ?_
          refine lv_iload_n hx hb dX0_passColumn_11 rfl (lv_at hl 2 rfl) ?_
          refine gz_callR (W.runS (As := [.int (nI i), .int (nI col)]) (rest := []) ⟨hx, hb, hml, hown, hts⟩ (cG_cellAt l i col) (va_cwS 2 hts gX0_passColumn_X0_cellAt rfl rfl rfl (by decide +kernel) ⟨Nat.le_of_ble_eq_true rfl, Nat.le_of_ble_eq_true rfl⟩) preEq rfl rfl hl.1 rfl (lv_room (Nat.le_of_ble_eq_true rfl)) dX0_passColumn_12 ⟨Nat.le_of_ble_eq_true rfl, Nat.le_of_ble_eq_true rfl⟩) ?_
          refine lv_istore_n (lv' := [(3, .int (nI (i * 12 + col))), (2, .int (nI i)), (0, .ref h), (1, .int (nI col))]) hx hb dX0_passColumn_15 rfl hl (by decide) rfl (fun ls hl => ?_)
          refine lv_aload_n hx hb dX0_passColumn_16 rfl (lv_at hl 2 rfl) ?_
          refine va_get (D := (dC, dI)) (ci := 0) (v := .ref qv) (C := RX0) (T := TX0) (N := 9) hx hb hts hin0 hown hK hP 0 rfl rfl 5 (by decide) lk25 (fun _ h9 => h9) rfl dX0_passColumn_17 ?_
          refine lv_aload_n hx hb dX0_passColumn_20 rfl (lv_at hl 2 rfl) ?_
          refine va_get (D := (dC, dI)) (ci := 0) (v := .ref qc) (C := RX0) (T := TX0) (N := 9) hx hb hts hin0 hown hK hP 0 rfl rfl 1 (by decide) lk13 (fun _ h9 => h9) rfl dX0_passColumn_21 ?_
          refine lv_iload_n hx hb dX0_passColumn_24 rfl (lv_at hl 0 rfl) ?_
          refine gz_iald (k := i * 12 + col) hx hb hK hP 2 0 rfl rfl (by omega) (by omega) dX0_passColumn_25 ?_
          refine va_iald hx hb hK hP 6 0 rfl rfl hci dX0_passColumn_26 ?_
          refine lv_istore (lv' := [(4, .int (fv (fc (i * 12 + col)).toNatClampNeg)), (3, .int (nI (i * 12 + col))), (2, .int (nI i)), (0, .ref h), (1, .int (nI col))]) hx hb dX0_passColumn_27 hl (by decide) rfl (fun ls hl => ?_)
          refine lv_aload_n hx hb dX0_passColumn_29 rfl (lv_at hl 3 rfl) ?_
          refine va_get (D := (dC, dI)) (ci := 0) (v := .ref qp) (C := RX0) (T := TX0) (N := 9) hx hb hts hin0 hown hK hP 0 rfl rfl 4 (by decide) lk22 (fun _ h9 => h9) rfl dX0_passColumn_30 ?_
          refine lv_iload_n hx hb dX0_passColumn_33 rfl (lv_at hl 2 rfl) ?_
          refine lv_iload_n hx hb dX0_passColumn_34 rfl (lv_at hl 4 rfl) ?_
          refine gz_callR (W.runS (As := [.int (nI i), .int (nI col)]) (rest := [.ref qp]) ⟨hx, hb, hml, hown, hts⟩ (cG_pointAt l i col) (va_cwS 2 hts gX0_passColumn_X0_pointAt rfl rfl rfl (by decide +kernel) ⟨Nat.le_of_ble_eq_true rfl, Nat.le_of_ble_eq_true rfl⟩) preEq rfl rfl hl.1 rfl (lv_room (Nat.le_of_ble_eq_true rfl)) dX0_passColumn_35 ⟨Nat.le_of_ble_eq_true rfl, Nat.le_of_ble_eq_true rfl⟩) ?_
          refine gz_iald (k := i * 13 + col) hx hb hK hP 5 0 rfl rfl (by omega) (by omega) dX0_passColumn_38 ?_
          refine lv_iconst (v := nI 1) hx hb dX0_passColumn_39 (by decide) ?_
          refine lv_icmp_ne (tgt := 67) hx hb dX0_passColumn_40 (by decide) (fun c_2 => False.elim (c_2 hp1)) (fun c_2 => ?_)
          refine lv_aload_n hx hb dX0_passColumn_43 rfl (lv_at hl 3 rfl) ?_
          refine va_get (D := (dC, dI)) (ci := 0) (v := .ref qk) (C := RX0) (T := TX0) (N := 9) hx hb hts hin0 hown hK hP 0 rfl rfl 0 (by decide) lk9 (fun _ h9 => h9) rfl dX0_passColumn_44 ?_
          refine lv_iload_n hx hb dX0_passColumn_47 rfl (lv_at hl 1 rfl) ?_
          refine gz_iald (k := i * 12 + col) hx hb hK hP 1 0 rfl rfl (by omega) (by omega) dX0_passColumn_48 ?_
          refine lv_iload hx hb dX0_passColumn_49 (lv_at hl 0 rfl) ?_
          refine lv_aload_n hx hb dX0_passColumn_51 rfl (lv_at hl 3 rfl) ?_
          refine va_get (D := (dC, dI)) (ci := 0) (v := .ref qs) (C := RX0) (T := TX0) (N := 9) hx hb hts hin0 hown hK hP 0 rfl rfl 2 (by decide) lk16 (fun _ h9 => h9) rfl dX0_passColumn_52 ?_
          refine lv_iload_n hx hb dX0_passColumn_55 rfl (lv_at hl 1 rfl) ?_
          refine gz_iald (k := i * 12 + col) hx hb hK hP 3 0 rfl rfl (by omega) (by omega) dX0_passColumn_56 ?_
          refine gz_callR (W.runS (As := [.int (fk (i * 12 + col)), .int (fv (fc (i * 12 + col)).toNatClampNeg), .int (q.2 (i * 12 + col))]) (rest := []) ⟨hx, hb, hml, hown, hts⟩ (cG_letsThrough l (fk (i * 12 + col)) (fv (fc (i * 12 + col)).toNatClampNeg) (q.2 (i * 12 + col))) (va_cwS 3 hts gX0_passColumn_X0_letsThrough rfl rfl rfl (by decide +kernel) ⟨Nat.le_of_ble_eq_true rfl, Nat.le_of_ble_eq_true rfl⟩) preEq rfl rfl hl.1 rfl (lv_room (Nat.le_of_ble_eq_true rfl)) dX0_passColumn_57 ⟨Nat.le_of_ble_eq_true rfl, Nat.le_of_ble_eq_true rfl⟩) ?_
          refine lv_if_eq (tgt := 67) hx hb dX0_passColumn_60 (by decide) (fun c_3 => ?_) (fun c_3 => False.elim (c_3 hg))
          refine lv_iconst (v := nI 0) hx hb dX0_passColumn_67 (by decide) ?_
          refine lv_istore (lv' := [(5, .int (nI 0)), (4, .int (fv (fc (i * 12 + col)).toNatClampNeg)), (3, .int (nI (i * 12 + col))), (2, .int (nI i)), (0, .ref h), (1, .int (nI col))]) hx hb dX0_passColumn_68 hl (by decide) rfl (fun ls hl => ?_)
          refine lv_aload_n hx hb dX0_passColumn_70 rfl (lv_at hl 4 rfl) ?_
          refine va_get (D := (dC, dI)) (ci := 0) (v := .ref qp) (C := RX0) (T := TX0) (N := 9) hx hb hts hin0 hown hK hP 0 rfl rfl 4 (by decide) lk22 (fun _ h9 => h9) rfl dX0_passColumn_71 ?_
          refine lv_iload_n hx hb dX0_passColumn_74 rfl (lv_at hl 3 rfl) ?_
          refine lv_iload_n hx hb dX0_passColumn_75 rfl (lv_at hl 5 rfl) ?_
          refine lv_iconst (v := nI 1) hx hb dX0_passColumn_76 (by decide) ?_
          refine gz_iadd (i := col) (j := 1) hx hb dX0_passColumn_77 ?_
          refine gz_callR (W.runS (As := [.int (nI i), .int (nI (col + 1))]) (rest := [.ref qp]) ⟨hx, hb, hml, hown, hts⟩ (cG_pointAt l i (col + 1)) (va_cwS 2 hts gX0_passColumn_X0_pointAt rfl rfl rfl (by decide +kernel) ⟨Nat.le_of_ble_eq_true rfl, Nat.le_of_ble_eq_true rfl⟩) preEq rfl rfl hl.1 rfl (lv_room (Nat.le_of_ble_eq_true rfl)) dX0_passColumn_78 ⟨Nat.le_of_ble_eq_true rfl, Nat.le_of_ble_eq_true rfl⟩) ?_
          refine lv_iload hx hb dX0_passColumn_81 (lv_at hl 0 rfl) ?_
          refine lv_if_eq (tgt := 90) hx hb dX0_passColumn_83 (by decide) (fun c_4 => ?_) (fun c_4 => False.elim (c_4 rfl))
          refine lv_iconst (v := nI 0) hx hb dX0_passColumn_90 (by decide) ?_
          refine gz_iast (k := i * 13 + (col + 1)) hx hb hK hP hD hS 5 0 rfl rfl (by omega) (by omega) dX0_passColumn_91 (fun H locs hP hD hS => ?_)
          have hP : va_P (dC, dI) vwCl (gw cA h qk qc qs ql qp qv fk fc q.2 fl (upd q.1 (i * 13 + (col + 1)) (nI 0)) fv (nI rn) (nI cn) sc) H := hP
          have hD : va_D A (gw cA h qk qc qs ql qp qv fk fc q.2 fl (upd q.1 (i * 13 + (col + 1)) (nI 0)) fv (nI rn) (nI cn) sc) := hD
          refine lv_aload_n hx hb dX0_passColumn_92 rfl (lv_at hl 4 rfl) ?_
          refine va_get (D := (dC, dI)) (ci := 0) (v := .ref qs) (C := RX0) (T := TX0) (N := 9) hx hb hts hin0 hown hK hP 0 rfl rfl 2 (by decide) lk16 (fun _ h9 => h9) rfl dX0_passColumn_93 ?_
          refine lv_iload_n hx hb dX0_passColumn_96 rfl (lv_at hl 2 rfl) ?_
          refine lv_iload hx hb dX0_passColumn_97 (lv_at hl 1 rfl) ?_
          refine gz_iast (k := i * 12 + col) hx hb hK hP hD hS 3 0 rfl rfl (by omega) (by omega) dX0_passColumn_99 (fun H locs hP hD hS => ?_)
          have hP : va_P (dC, dI) vwCl (gw cA h qk qc qs ql qp qv fk fc (upd q.2 (i * 12 + col) (fv (fc (i * 12 + col)).toNatClampNeg)) fl (upd q.1 (i * 13 + (col + 1)) (nI 0)) fv (nI rn) (nI cn) sc) H := hP
          have hD : va_D A (gw cA h qk qc qs ql qp qv fk fc (upd q.2 (i * 12 + col) (fv (fc (i * 12 + col)).toNatClampNeg)) fl (upd q.1 (i * 13 + (col + 1)) (nI 0)) fv (nI rn) (nI cn) sc) := hD
          refine lv_iinc (v := nI (i + 1)) (lv' := [(2, .int (nI (i + 1))), (5, .int (nI 0)), (4, .int (fv (fc (i * 12 + col)).toNatClampNeg)), (3, .int (nI (i * 12 + col))), (0, .ref h), (1, .int (nI col))]) hx hb dX0_passColumn_100 hl (k := 3) rfl (nI_1 _) (by decide) rfl (fun ls hl => ?_)
          refine lv_goto (tgt := 2) hx hb dX0_passColumn_103 (by decide) ?_
          exact ih (i + 1) (upd q.1 (i * 13 + (col + 1)) (nI 0), upd q.2 (i * 12 + col) (fv (fc (i * 12 + col)).toNatClampNeg)) (by omega) (by show _ = gPs1 _ _ _ _ _ (gPs fk fc fv col (fp, fs) i); rw [← hq]; unfold gPs1; rw [if_pos hp1, hg]) H locs hP hD hS ls (lv_sub hl [0, 4, 5] rfl)
        · skip
          refine lv_iload_n hx hb dX0_passColumn_2 rfl (lv_at hl 0 rfl) ?_
          refine lv_aload_n hx hb dX0_passColumn_3 rfl (lv_at hl 1 rfl) ?_
          refine va_get (D := (dC, dI)) (ci := 0) (v := .int (nI rn)) (C := RX0) (T := TX0) (N := 9) hx hb hts hin0 hown hK hP 0 rfl rfl 6 (by decide) lk28 (fun _ h9 => h9) rfl dX0_passColumn_4 ?_
          refine gz_icmp_ge (tgt := 106) (za := ((i : Nat) : Int)) (zb := ((rn : Nat) : Int)) hx hb dX0_passColumn_7 (by decide) (nI_toInt (by omega)) (nI_toInt (by omega)) (fun c_1 => False.elim (by omega)) (fun c_1 => ?_)
          refine lv_iload_n hx hb dX0_passColumn_10 rfl (lv_at hl 0 rfl) ?_
          refine lv_iload_n hx hb dX0_passColumn_11 rfl (lv_at hl 2 rfl) ?_
          refine gz_callR (W.runS (As := [.int (nI i), .int (nI col)]) (rest := []) ⟨hx, hb, hml, hown, hts⟩ (cG_cellAt l i col) (va_cwS 2 hts gX0_passColumn_X0_cellAt rfl rfl rfl (by decide +kernel) ⟨Nat.le_of_ble_eq_true rfl, Nat.le_of_ble_eq_true rfl⟩) preEq rfl rfl hl.1 rfl (lv_room (Nat.le_of_ble_eq_true rfl)) dX0_passColumn_12 ⟨Nat.le_of_ble_eq_true rfl, Nat.le_of_ble_eq_true rfl⟩) ?_
          refine lv_istore_n (lv' := [(3, .int (nI (i * 12 + col))), (2, .int (nI i)), (0, .ref h), (1, .int (nI col))]) hx hb dX0_passColumn_15 rfl hl (by decide) rfl (fun ls hl => ?_)
          refine lv_aload_n hx hb dX0_passColumn_16 rfl (lv_at hl 2 rfl) ?_
          refine va_get (D := (dC, dI)) (ci := 0) (v := .ref qv) (C := RX0) (T := TX0) (N := 9) hx hb hts hin0 hown hK hP 0 rfl rfl 5 (by decide) lk25 (fun _ h9 => h9) rfl dX0_passColumn_17 ?_
          refine lv_aload_n hx hb dX0_passColumn_20 rfl (lv_at hl 2 rfl) ?_
          refine va_get (D := (dC, dI)) (ci := 0) (v := .ref qc) (C := RX0) (T := TX0) (N := 9) hx hb hts hin0 hown hK hP 0 rfl rfl 1 (by decide) lk13 (fun _ h9 => h9) rfl dX0_passColumn_21 ?_
          refine lv_iload_n hx hb dX0_passColumn_24 rfl (lv_at hl 0 rfl) ?_
          refine gz_iald (k := i * 12 + col) hx hb hK hP 2 0 rfl rfl (by omega) (by omega) dX0_passColumn_25 ?_
          refine va_iald hx hb hK hP 6 0 rfl rfl hci dX0_passColumn_26 ?_
          refine lv_istore (lv' := [(4, .int (fv (fc (i * 12 + col)).toNatClampNeg)), (3, .int (nI (i * 12 + col))), (2, .int (nI i)), (0, .ref h), (1, .int (nI col))]) hx hb dX0_passColumn_27 hl (by decide) rfl (fun ls hl => ?_)
          refine lv_aload_n hx hb dX0_passColumn_29 rfl (lv_at hl 3 rfl) ?_
          refine va_get (D := (dC, dI)) (ci := 0) (v := .ref qp) (C := RX0) (T := TX0) (N := 9) hx hb hts hin0 hown hK hP 0 rfl rfl 4 (by decide) lk22 (fun _ h9 => h9) rfl dX0_passColumn_30 ?_
          refine lv_iload_n hx hb dX0_passColumn_33 rfl (lv_at hl 2 rfl) ?_
          refine lv_iload_n hx hb dX0_passColumn_34 rfl (lv_at hl 4 rfl) ?_
          refine gz_callR (W.runS (As := [.int (nI i), .int (nI col)]) (rest := [.ref qp]) ⟨hx, hb, hml, hown, hts⟩ (cG_pointAt l i col) (va_cwS 2 hts gX0_passColumn_X0_pointAt rfl rfl rfl (by decide +kernel) ⟨Nat.le_of_ble_eq_true rfl, Nat.le_of_ble_eq_true rfl⟩) preEq rfl rfl hl.1 rfl (lv_room (Nat.le_of_ble_eq_true rfl)) dX0_passColumn_35 ⟨Nat.le_of_ble_eq_true rfl, Nat.le_of_ble_eq_true rfl⟩) ?_
          refine gz_iald (k := i * 13 + col) hx hb hK hP 5 0 rfl rfl (by omega) (by omega) dX0_passColumn_38 ?_
          refine lv_iconst (v := nI 1) hx hb dX0_passColumn_39 (by decide) ?_
          refine lv_icmp_ne (tgt := 67) hx hb dX0_passColumn_40 (by decide) (fun c_2 => False.elim (c_2 hp1)) (fun c_2 => ?_)
          refine lv_aload_n hx hb dX0_passColumn_43 rfl (lv_at hl 3 rfl) ?_
          refine va_get (D := (dC, dI)) (ci := 0) (v := .ref qk) (C := RX0) (T := TX0) (N := 9) hx hb hts hin0 hown hK hP 0 rfl rfl 0 (by decide) lk9 (fun _ h9 => h9) rfl dX0_passColumn_44 ?_
          refine lv_iload_n hx hb dX0_passColumn_47 rfl (lv_at hl 1 rfl) ?_
          refine gz_iald (k := i * 12 + col) hx hb hK hP 1 0 rfl rfl (by omega) (by omega) dX0_passColumn_48 ?_
          refine lv_iload hx hb dX0_passColumn_49 (lv_at hl 0 rfl) ?_
          refine lv_aload_n hx hb dX0_passColumn_51 rfl (lv_at hl 3 rfl) ?_
          refine va_get (D := (dC, dI)) (ci := 0) (v := .ref qs) (C := RX0) (T := TX0) (N := 9) hx hb hts hin0 hown hK hP 0 rfl rfl 2 (by decide) lk16 (fun _ h9 => h9) rfl dX0_passColumn_52 ?_
          refine lv_iload_n hx hb dX0_passColumn_55 rfl (lv_at hl 1 rfl) ?_
          refine gz_iald (k := i * 12 + col) hx hb hK hP 3 0 rfl rfl (by omega) (by omega) dX0_passColumn_56 ?_
          refine gz_callR (W.runS (As := [.int (fk (i * 12 + col)), .int (fv (fc (i * 12 + col)).toNatClampNeg), .int (q.2 (i * 12 + col))]) (rest := []) ⟨hx, hb, hml, hown, hts⟩ (cG_letsThrough l (fk (i * 12 + col)) (fv (fc (i * 12 + col)).toNatClampNeg) (q.2 (i * 12 + col))) (va_cwS 3 hts gX0_passColumn_X0_letsThrough rfl rfl rfl (by decide +kernel) ⟨Nat.le_of_ble_eq_true rfl, Nat.le_of_ble_eq_true rfl⟩) preEq rfl rfl hl.1 rfl (lv_room (Nat.le_of_ble_eq_true rfl)) dX0_passColumn_57 ⟨Nat.le_of_ble_eq_true rfl, Nat.le_of_ble_eq_true rfl⟩) ?_
          refine lv_if_eq (tgt := 67) hx hb dX0_passColumn_60 (by decide) (fun c_3 => False.elim (absurd (hg.symm.trans c_3) (by decide))) (fun c_3 => ?_)
          refine lv_iconst (v := nI 1) hx hb dX0_passColumn_63 (by decide) ?_
          refine lv_goto (tgt := 68) hx hb dX0_passColumn_64 (by decide) ?_
          refine lv_istore (lv' := [(5, .int (nI 1)), (4, .int (fv (fc (i * 12 + col)).toNatClampNeg)), (3, .int (nI (i * 12 + col))), (2, .int (nI i)), (0, .ref h), (1, .int (nI col))]) hx hb dX0_passColumn_68 hl (by decide) rfl (fun ls hl => ?_)
          refine lv_aload_n hx hb dX0_passColumn_70 rfl (lv_at hl 4 rfl) ?_
          refine va_get (D := (dC, dI)) (ci := 0) (v := .ref qp) (C := RX0) (T := TX0) (N := 9) hx hb hts hin0 hown hK hP 0 rfl rfl 4 (by decide) lk22 (fun _ h9 => h9) rfl dX0_passColumn_71 ?_
          refine lv_iload_n hx hb dX0_passColumn_74 rfl (lv_at hl 3 rfl) ?_
          refine lv_iload_n hx hb dX0_passColumn_75 rfl (lv_at hl 5 rfl) ?_
          refine lv_iconst (v := nI 1) hx hb dX0_passColumn_76 (by decide) ?_
          refine gz_iadd (i := col) (j := 1) hx hb dX0_passColumn_77 ?_
          refine gz_callR (W.runS (As := [.int (nI i), .int (nI (col + 1))]) (rest := [.ref qp]) ⟨hx, hb, hml, hown, hts⟩ (cG_pointAt l i (col + 1)) (va_cwS 2 hts gX0_passColumn_X0_pointAt rfl rfl rfl (by decide +kernel) ⟨Nat.le_of_ble_eq_true rfl, Nat.le_of_ble_eq_true rfl⟩) preEq rfl rfl hl.1 rfl (lv_room (Nat.le_of_ble_eq_true rfl)) dX0_passColumn_78 ⟨Nat.le_of_ble_eq_true rfl, Nat.le_of_ble_eq_true rfl⟩) ?_
          refine lv_iload hx hb dX0_passColumn_81 (lv_at hl 0 rfl) ?_
          refine lv_if_eq (tgt := 90) hx hb dX0_passColumn_83 (by decide) (fun c_4 => False.elim (absurd c_4 (by decide))) (fun c_4 => ?_)
          refine lv_iconst (v := nI 1) hx hb dX0_passColumn_86 (by decide) ?_
          refine lv_goto (tgt := 91) hx hb dX0_passColumn_87 (by decide) ?_
          refine gz_iast (k := i * 13 + (col + 1)) hx hb hK hP hD hS 5 0 rfl rfl (by omega) (by omega) dX0_passColumn_91 (fun H locs hP hD hS => ?_)
          have hP : va_P (dC, dI) vwCl (gw cA h qk qc qs ql qp qv fk fc q.2 fl (upd q.1 (i * 13 + (col + 1)) (nI 1)) fv (nI rn) (nI cn) sc) H := hP
          have hD : va_D A (gw cA h qk qc qs ql qp qv fk fc q.2 fl (upd q.1 (i * 13 + (col + 1)) (nI 1)) fv (nI rn) (nI cn) sc) := hD
          refine lv_aload_n hx hb dX0_passColumn_92 rfl (lv_at hl 4 rfl) ?_
          refine va_get (D := (dC, dI)) (ci := 0) (v := .ref qs) (C := RX0) (T := TX0) (N := 9) hx hb hts hin0 hown hK hP 0 rfl rfl 2 (by decide) lk16 (fun _ h9 => h9) rfl dX0_passColumn_93 ?_
          refine lv_iload_n hx hb dX0_passColumn_96 rfl (lv_at hl 2 rfl) ?_
          refine lv_iload hx hb dX0_passColumn_97 (lv_at hl 1 rfl) ?_
          refine gz_iast (k := i * 12 + col) hx hb hK hP hD hS 3 0 rfl rfl (by omega) (by omega) dX0_passColumn_99 (fun H locs hP hD hS => ?_)
          have hP : va_P (dC, dI) vwCl (gw cA h qk qc qs ql qp qv fk fc (upd q.2 (i * 12 + col) (fv (fc (i * 12 + col)).toNatClampNeg)) fl (upd q.1 (i * 13 + (col + 1)) (nI 1)) fv (nI rn) (nI cn) sc) H := hP
          have hD : va_D A (gw cA h qk qc qs ql qp qv fk fc (upd q.2 (i * 12 + col) (fv (fc (i * 12 + col)).toNatClampNeg)) fl (upd q.1 (i * 13 + (col + 1)) (nI 1)) fv (nI rn) (nI cn) sc) := hD
          refine lv_iinc (v := nI (i + 1)) (lv' := [(2, .int (nI (i + 1))), (5, .int (nI 1)), (4, .int (fv (fc (i * 12 + col)).toNatClampNeg)), (3, .int (nI (i * 12 + col))), (0, .ref h), (1, .int (nI col))]) hx hb dX0_passColumn_100 hl (k := 3) rfl (nI_1 _) (by decide) rfl (fun ls hl => ?_)
          refine lv_goto (tgt := 2) hx hb dX0_passColumn_103 (by decide) ?_
          exact ih (i + 1) (upd q.1 (i * 13 + (col + 1)) (nI 1), upd q.2 (i * 12 + col) (fv (fc (i * 12 + col)).toNatClampNeg)) (by omega) (by show _ = gPs1 _ _ _ _ _ (gPs fk fc fv col (fp, fs) i); rw [← hq]; unfold gPs1; rw [if_pos hp1, hg]) H locs hP hD hS ls (lv_sub hl [0, 4, 5] rfl)
      · skip
        refine lv_iload_n hx hb dX0_passColumn_2 rfl (lv_at hl 0 rfl) ?_
        refine lv_aload_n hx hb dX0_passColumn_3 rfl (lv_at hl 1 rfl) ?_
        refine va_get (D := (dC, dI)) (ci := 0) (v := .int (nI rn)) (C := RX0) (T := TX0) (N := 9) hx hb hts hin0 hown hK hP 0 rfl rfl 6 (by decide) lk28 (fun _ h9 => h9) rfl dX0_passColumn_4 ?_
        refine gz_icmp_ge (tgt := 106) (za := ((i : Nat) : Int)) (zb := ((rn : Nat) : Int)) hx hb dX0_passColumn_7 (by decide) (nI_toInt (by omega)) (nI_toInt (by omega)) (fun c_1 => False.elim (by omega)) (fun c_1 => ?_)
        refine lv_iload_n hx hb dX0_passColumn_10 rfl (lv_at hl 0 rfl) ?_
        refine lv_iload_n hx hb dX0_passColumn_11 rfl (lv_at hl 2 rfl) ?_
        refine gz_callR (W.runS (As := [.int (nI i), .int (nI col)]) (rest := []) ⟨hx, hb, hml, hown, hts⟩ (cG_cellAt l i col) (va_cwS 2 hts gX0_passColumn_X0_cellAt rfl rfl rfl (by decide +kernel) ⟨Nat.le_of_ble_eq_true rfl, Nat.le_of_ble_eq_true rfl⟩) preEq rfl rfl hl.1 rfl (lv_room (Nat.le_of_ble_eq_true rfl)) dX0_passColumn_12 ⟨Nat.le_of_ble_eq_true rfl, Nat.le_of_ble_eq_true rfl⟩) ?_
        refine lv_istore_n (lv' := [(3, .int (nI (i * 12 + col))), (2, .int (nI i)), (0, .ref h), (1, .int (nI col))]) hx hb dX0_passColumn_15 rfl hl (by decide) rfl (fun ls hl => ?_)
        refine lv_aload_n hx hb dX0_passColumn_16 rfl (lv_at hl 2 rfl) ?_
        refine va_get (D := (dC, dI)) (ci := 0) (v := .ref qv) (C := RX0) (T := TX0) (N := 9) hx hb hts hin0 hown hK hP 0 rfl rfl 5 (by decide) lk25 (fun _ h9 => h9) rfl dX0_passColumn_17 ?_
        refine lv_aload_n hx hb dX0_passColumn_20 rfl (lv_at hl 2 rfl) ?_
        refine va_get (D := (dC, dI)) (ci := 0) (v := .ref qc) (C := RX0) (T := TX0) (N := 9) hx hb hts hin0 hown hK hP 0 rfl rfl 1 (by decide) lk13 (fun _ h9 => h9) rfl dX0_passColumn_21 ?_
        refine lv_iload_n hx hb dX0_passColumn_24 rfl (lv_at hl 0 rfl) ?_
        refine gz_iald (k := i * 12 + col) hx hb hK hP 2 0 rfl rfl (by omega) (by omega) dX0_passColumn_25 ?_
        refine va_iald hx hb hK hP 6 0 rfl rfl hci dX0_passColumn_26 ?_
        refine lv_istore (lv' := [(4, .int (fv (fc (i * 12 + col)).toNatClampNeg)), (3, .int (nI (i * 12 + col))), (2, .int (nI i)), (0, .ref h), (1, .int (nI col))]) hx hb dX0_passColumn_27 hl (by decide) rfl (fun ls hl => ?_)
        refine lv_aload_n hx hb dX0_passColumn_29 rfl (lv_at hl 3 rfl) ?_
        refine va_get (D := (dC, dI)) (ci := 0) (v := .ref qp) (C := RX0) (T := TX0) (N := 9) hx hb hts hin0 hown hK hP 0 rfl rfl 4 (by decide) lk22 (fun _ h9 => h9) rfl dX0_passColumn_30 ?_
        refine lv_iload_n hx hb dX0_passColumn_33 rfl (lv_at hl 2 rfl) ?_
        refine lv_iload_n hx hb dX0_passColumn_34 rfl (lv_at hl 4 rfl) ?_
        refine gz_callR (W.runS (As := [.int (nI i), .int (nI col)]) (rest := [.ref qp]) ⟨hx, hb, hml, hown, hts⟩ (cG_pointAt l i col) (va_cwS 2 hts gX0_passColumn_X0_pointAt rfl rfl rfl (by decide +kernel) ⟨Nat.le_of_ble_eq_true rfl, Nat.le_of_ble_eq_true rfl⟩) preEq rfl rfl hl.1 rfl (lv_room (Nat.le_of_ble_eq_true rfl)) dX0_passColumn_35 ⟨Nat.le_of_ble_eq_true rfl, Nat.le_of_ble_eq_true rfl⟩) ?_
        refine gz_iald (k := i * 13 + col) hx hb hK hP 5 0 rfl rfl (by omega) (by omega) dX0_passColumn_38 ?_
        refine lv_iconst (v := nI 1) hx hb dX0_passColumn_39 (by decide) ?_
        refine lv_icmp_ne (tgt := 67) hx hb dX0_passColumn_40 (by decide) (fun c_2 => ?_) (fun c_2 => False.elim (hp1 c_2))
        refine lv_iconst (v := nI 0) hx hb dX0_passColumn_67 (by decide) ?_
        refine lv_istore (lv' := [(5, .int (nI 0)), (4, .int (fv (fc (i * 12 + col)).toNatClampNeg)), (3, .int (nI (i * 12 + col))), (2, .int (nI i)), (0, .ref h), (1, .int (nI col))]) hx hb dX0_passColumn_68 hl (by decide) rfl (fun ls hl => ?_)
        refine lv_aload_n hx hb dX0_passColumn_70 rfl (lv_at hl 4 rfl) ?_
        refine va_get (D := (dC, dI)) (ci := 0) (v := .ref qp) (C := RX0) (T := TX0) (N := 9) hx hb hts hin0 hown hK hP 0 rfl rfl 4 (by decide) lk22 (fun _ h9 => h9) rfl dX0_passColumn_71 ?_
        refine lv_iload_n hx hb dX0_passColumn_74 rfl (lv_at hl 3 rfl) ?_
        refine lv_iload_n hx hb dX0_passColumn_75 rfl (lv_at hl 5 rfl) ?_
        refine lv_iconst (v := nI 1) hx hb dX0_passColumn_76 (by decide) ?_
        refine gz_iadd (i := col) (j := 1) hx hb dX0_passColumn_77 ?_
        refine gz_callR (W.runS (As := [.int (nI i), .int (nI (col + 1))]) (rest := [.ref qp]) ⟨hx, hb, hml, hown, hts⟩ (cG_pointAt l i (col + 1)) (va_cwS 2 hts gX0_passColumn_X0_pointAt rfl rfl rfl (by decide +kernel) ⟨Nat.le_of_ble_eq_true rfl, Nat.le_of_ble_eq_true rfl⟩) preEq rfl rfl hl.1 rfl (lv_room (Nat.le_of_ble_eq_true rfl)) dX0_passColumn_78 ⟨Nat.le_of_ble_eq_true rfl, Nat.le_of_ble_eq_true rfl⟩) ?_
        refine lv_iload hx hb dX0_passColumn_81 (lv_at hl 0 rfl) ?_
        refine lv_if_eq (tgt := 90) hx hb dX0_passColumn_83 (by decide) (fun c_3 => ?_) (fun c_3 => False.elim (c_3 rfl))
        refine lv_iconst (v := nI 0) hx hb dX0_passColumn_90 (by decide) ?_
        refine gz_iast (k := i * 13 + (col + 1)) hx hb hK hP hD hS 5 0 rfl rfl (by omega) (by omega) dX0_passColumn_91 (fun H locs hP hD hS => ?_)
        have hP : va_P (dC, dI) vwCl (gw cA h qk qc qs ql qp qv fk fc q.2 fl (upd q.1 (i * 13 + (col + 1)) (nI 0)) fv (nI rn) (nI cn) sc) H := hP
        have hD : va_D A (gw cA h qk qc qs ql qp qv fk fc q.2 fl (upd q.1 (i * 13 + (col + 1)) (nI 0)) fv (nI rn) (nI cn) sc) := hD
        refine lv_aload_n hx hb dX0_passColumn_92 rfl (lv_at hl 4 rfl) ?_
        refine va_get (D := (dC, dI)) (ci := 0) (v := .ref qs) (C := RX0) (T := TX0) (N := 9) hx hb hts hin0 hown hK hP 0 rfl rfl 2 (by decide) lk16 (fun _ h9 => h9) rfl dX0_passColumn_93 ?_
        refine lv_iload_n hx hb dX0_passColumn_96 rfl (lv_at hl 2 rfl) ?_
        refine lv_iload hx hb dX0_passColumn_97 (lv_at hl 1 rfl) ?_
        refine gz_iast (k := i * 12 + col) hx hb hK hP hD hS 3 0 rfl rfl (by omega) (by omega) dX0_passColumn_99 (fun H locs hP hD hS => ?_)
        have hP : va_P (dC, dI) vwCl (gw cA h qk qc qs ql qp qv fk fc (upd q.2 (i * 12 + col) (fv (fc (i * 12 + col)).toNatClampNeg)) fl (upd q.1 (i * 13 + (col + 1)) (nI 0)) fv (nI rn) (nI cn) sc) H := hP
        have hD : va_D A (gw cA h qk qc qs ql qp qv fk fc (upd q.2 (i * 12 + col) (fv (fc (i * 12 + col)).toNatClampNeg)) fl (upd q.1 (i * 13 + (col + 1)) (nI 0)) fv (nI rn) (nI cn) sc) := hD
        refine lv_iinc (v := nI (i + 1)) (lv' := [(2, .int (nI (i + 1))), (5, .int (nI 0)), (4, .int (fv (fc (i * 12 + col)).toNatClampNeg)), (3, .int (nI (i * 12 + col))), (0, .ref h), (1, .int (nI col))]) hx hb dX0_passColumn_100 hl (k := 3) rfl (nI_1 _) (by decide) rfl (fun ls hl => ?_)
        refine lv_goto (tgt := 2) hx hb dX0_passColumn_103 (by decide) ?_
        exact ih (i + 1) (upd q.1 (i * 13 + (col + 1)) (nI 0), upd q.2 (i * 12 + col) (fv (fc (i * 12 + col)).toNatClampNeg)) (by omega) (by show _ = gPs1 _ _ _ _ _ (gPs fk fc fv col (fp, fs) i); rw [← hq]; unfold gPs1; rw [if_neg hp1]) H locs hP hD hS ls (lv_sub hl [0, 4, 5] rfl)
  refine lv_iconst (v := nI 0) hx hb dX0_passColumn_0 (by decide) ?_
  refine lv_istore_n (lv' := [(2, .int (nI 0)), (0, .ref h), (1, .int (nI col))]) hx hb dX0_passColumn_1 rfl hl (by decide) rfl (fun ls hl => ?_)
  exact loop rn 0 (fp, fs) (by omega) rfl H locs hP hD hS ls (lv_sub hl [0, 1, 2] rfl)
set_option maxHeartbeats 4000000 in
set_option maxRecDepth 100000 in
theorem cG_share (l : Launch) (dC : Nat → ClassId) (dI : Nat → Nat → Nat) (sz : Nat) (cA cZ : ClassId) (h qk qc qs ql qp qv : Nat) (fk fc fs fl fp fv : Nat → Int32) (rn cn : Nat) (sc : Int32) (ln : Nat) (hrn : 1 ≤ rn ∧ rn ≤ 12) (hcn : 1 ≤ cn ∧ cn ≤ 12) (hln : ln ≤ cn) : Met l yX0_shareAlongLinks wsX0_shareAlongLinks ({ frames := 1, cells := 0, slots := 0, locals := 21 }) (gPw (dC, dI) vwCl [(cA, .int), (cZ, .boolean)] [.ref h, .int (nI ln)] sz (gw cA h qk qc qs ql qp qv fk fc fs fl fp fv (nI rn) (nI cn) sc)) (gVA (dC, dI) vwCl [(cA, .int), (cZ, .boolean)] (va_A (gw cA h qk qc qs ql qp qv fk fc fs fl fp fv (nI rn) (nI cn) sc) sz) (gw cA h qk qc qs ql qp qv fk fc fs fl (gSh fl ln rn fp) fv (nI rn) (nI cn) sc)) 0 0 (va_A (gw cA h qk qc qs ql qp qv fk fc fs fl fp fv (nI rn) (nI cn) sc) sz) := by
  refine Met.ofW (cc := cX0_shareAlongLinks) (maxL := 3) (ret := none) (by decide) rfl ?_
  intro p e s m args below meth c s₁ B hml hv
  obtain ⟨rfl, hsz, hP, hK, hD0⟩ := hv
  have hx := B.exec
  have hb := B.bytes
  have hr := B.returns
  have hts := atoms_spec (ws := wsX0_shareAlongLinks) B.pre
  have hown : s.vm.findClass RX0 = some m.cls := findClass_of_methodNamed B.named
  have hlocks := B.notSynchronized
  subst hsz
  have hD := hD0.self (sz := s.heap.size)
  generalize hAe : va_A (gw cA h qk qc qs ql qp qv fk fc fs fl fp fv (nI rn) (nI cn) sc) s.heap.size = A at hD ⊢
  have hA : ∀ q : Nat, s.heap.size ≤ q → A q := fun q h => by rw [← hAe]; exact Or.inr h
  have hS : va_S A s.heap s.heap [] := va_S.rf
  have hin0 : ∀ w ∈ u_ws RX0 TX0 9, w ∈ wsX0_shareAlongLinks := by decide +kernel
  have lk28 := hts (.fieldLink RX0 28 "LadderGrid" "rows" "I") (by decide +kernel)
  have lk19 := hts (.fieldLink RX0 19 "LadderGrid" "links" "[I") (by decide +kernel)
  have lk22 := hts (.fieldLink RX0 22 "LadderGrid" "powered" "[I") (by decide +kernel)
  have hl := lv_entry ([.ref h, .int (nI ln)]) (n := 3) (Nat.le_of_ble_eq_true rfl)
  rw [lg_entry_eq]
  generalize (lg_sl ([.ref h, .int (nI ln)]) ++ List.replicate (3 - (lg_sl ([.ref h, .int (nI ln)])).length) Slot.unset).toArray = ls at hl ⊢
  have hl : lv_has ls 3 [(0, .ref h), (1, .int (nI ln))] := hl
  suffices key : ∀ (H : Heap) (locs : List Loc), va_P (dC, dI) vwCl (gw cA h qk qc qs ql qp qv fk fc fs fl fp fv (nI rn) (nI cn) sc) H → va_D A (gw cA h qk qc qs ql qp qv fk fc fs fl fp fv (nI rn) (nI cn) sc) → va_S A s.heap H locs → W p l e (headSpec wsX0_shareAlongLinks ({ frames := 1, cells := 0, slots := 0, locals := 21 })).room s m ([.ref h, .int (nI ln)] : List Value).toArray below meth c H locs 0 0 (MQ below (gVA (dC, dI) vwCl [(cA, .int), (cZ, .boolean)] A (gw cA h qk qc qs ql qp qv fk fc fs fl (gSh fl ln rn fp) fv (nI rn) (nI cn) sc)) ([.ref h, .int (nI ln)] : List Value).toArray s 0 0 A) (F0 m 0 ls []) from key s.heap [] hP hD hS
  clear hP hD hS
  intro H locs hP hD hS
  have loop2 : ∀ (n : Nat) (g : Nat → Int32), n + 1 ≤ rn → gUp fl ln (rn - 1) (gDn fl ln fp (rn - 1)) = gUp fl ln n g → ∀ (H : Heap) (locs : List Loc), va_P (dC, dI) vwCl (gw cA h qk qc qs ql qp qv fk fc fs fl g fv (nI rn) (nI cn) sc) H → va_D A (gw cA h qk qc qs ql qp qv fk fc fs fl g fv (nI rn) (nI cn) sc) → va_S A s.heap H locs → ∀ (ls : Array Slot), lv_has ls 3 [(2, .int (gRow n)), (0, .ref h), (1, .int (nI ln))] → W p l e (headSpec wsX0_shareAlongLinks ({ frames := 1, cells := 0, slots := 0, locals := 21 })).room s m ([.ref h, .int (nI ln)] : List Value).toArray below meth c H locs 0 0 (MQ below (gVA (dC, dI) vwCl [(cA, .int), (cZ, .boolean)] A (gw cA h qk qc qs ql qp qv fk fc fs fl (gSh fl ln rn fp) fv (nI rn) (nI cn) sc)) ([.ref h, .int (nI ln)] : List Value).toArray s 0 0 A) (F0 m 66 ls []) := by
    intro n
    induction n with
    | zero =>
      intro g hn hg H locs hP hD hS ls hl
      have hl : lv_has ls 3 [(2, .int (-1)), (0, .ref h), (1, .int (nI ln))] := hl
      refine lv_iload_n hx hb dX0_shareAlongLinks_66 rfl (lv_at hl 0 rfl) ?_
      refine gz_if_lt (tgt := 117) (za := (-1)) hx hb dX0_shareAlongLinks_67 (by decide) (by decide) (fun c_1 => ?_) (fun c_1 => False.elim (by omega))
      exact W.vret hx hb hr (fun t ht hW => ⟨⟨(), rfl, trivial, by rw [ht]; exact (by unfold gSh; rw [hg]; exact hP), va_K.moved hW.alike hK, (by unfold gSh; rw [hg]; exact hD)⟩, hS.F ht⟩) hS.2.2 dX0_shareAlongLinks_117
    | succ n ih =>
      intro g hn hg H locs hP hD hS ls hl
      have hl : lv_has ls 3 [(2, .int (nI n)), (0, .ref h), (1, .int (nI ln))] := hl
      by_cases hf1 : fl (n * 13 + ln) = nI 1
      · by_cases hg1 : g ((n + 1) * 13 + ln) = nI 1
        · skip
          refine lv_iload_n hx hb dX0_shareAlongLinks_66 rfl (lv_at hl 0 rfl) ?_
          refine gz_if_lt (tgt := 117) (za := ((n : Nat) : Int)) hx hb dX0_shareAlongLinks_67 (by decide) (nI_toInt (by omega)) (fun c_1 => False.elim (by omega)) (fun c_1 => ?_)
          refine lv_aload_n hx hb dX0_shareAlongLinks_70 rfl (lv_at hl 1 rfl) ?_
          refine va_get (D := (dC, dI)) (ci := 0) (v := .ref ql) (C := RX0) (T := TX0) (N := 9) hx hb hts hin0 hown hK hP 0 rfl rfl 3 (by decide) lk19 (fun _ h9 => h9) rfl dX0_shareAlongLinks_71 ?_
          refine lv_iload_n hx hb dX0_shareAlongLinks_74 rfl (lv_at hl 0 rfl) ?_
          refine lv_iload_n hx hb dX0_shareAlongLinks_75 rfl (lv_at hl 2 rfl) ?_
          refine gz_callR (W.runS (As := [.int (nI n), .int (nI ln)]) (rest := [.ref ql]) ⟨hx, hb, hml, hown, hts⟩ (cG_pointAt l n ln) (va_cwS 2 hts gX0_shareAlongLinks_X0_pointAt rfl rfl rfl (by decide +kernel) ⟨Nat.le_of_ble_eq_true rfl, Nat.le_of_ble_eq_true rfl⟩) preEq rfl rfl hl.1 rfl (lv_room (Nat.le_of_ble_eq_true rfl)) dX0_shareAlongLinks_76 ⟨Nat.le_of_ble_eq_true rfl, Nat.le_of_ble_eq_true rfl⟩) ?_
          refine gz_iald (k := n * 13 + ln) hx hb hK hP 4 0 rfl rfl (by omega) (by omega) dX0_shareAlongLinks_79 ?_
          refine lv_iconst (v := nI 1) hx hb dX0_shareAlongLinks_80 (by decide) ?_
          refine lv_icmp_ne (tgt := 111) hx hb dX0_shareAlongLinks_81 (by decide) (fun c_2 => False.elim (c_2 hf1)) (fun c_2 => ?_)
          refine lv_aload_n hx hb dX0_shareAlongLinks_84 rfl (lv_at hl 1 rfl) ?_
          refine va_get (D := (dC, dI)) (ci := 0) (v := .ref qp) (C := RX0) (T := TX0) (N := 9) hx hb hts hin0 hown hK hP 0 rfl rfl 4 (by decide) lk22 (fun _ h9 => h9) rfl dX0_shareAlongLinks_85 ?_
          refine lv_iload_n hx hb dX0_shareAlongLinks_88 rfl (lv_at hl 0 rfl) ?_
          refine lv_iconst (v := nI 1) hx hb dX0_shareAlongLinks_89 (by decide) ?_
          refine gz_iadd (i := n) (j := 1) hx hb dX0_shareAlongLinks_90 ?_
          refine lv_iload_n hx hb dX0_shareAlongLinks_91 rfl (lv_at hl 2 rfl) ?_
          refine gz_callR (W.runS (As := [.int (nI (n + 1)), .int (nI ln)]) (rest := [.ref qp]) ⟨hx, hb, hml, hown, hts⟩ (cG_pointAt l (n + 1) ln) (va_cwS 2 hts gX0_shareAlongLinks_X0_pointAt rfl rfl rfl (by decide +kernel) ⟨Nat.le_of_ble_eq_true rfl, Nat.le_of_ble_eq_true rfl⟩) preEq rfl rfl hl.1 rfl (lv_room (Nat.le_of_ble_eq_true rfl)) dX0_shareAlongLinks_92 ⟨Nat.le_of_ble_eq_true rfl, Nat.le_of_ble_eq_true rfl⟩) ?_
          refine gz_iald (k := (n + 1) * 13 + ln) hx hb hK hP 5 0 rfl rfl (by omega) (by omega) dX0_shareAlongLinks_95 ?_
          refine lv_iconst (v := nI 1) hx hb dX0_shareAlongLinks_96 (by decide) ?_
          refine lv_icmp_ne (tgt := 111) hx hb dX0_shareAlongLinks_97 (by decide) (fun c_3 => False.elim (c_3 hg1)) (fun c_3 => ?_)
          refine lv_aload_n hx hb dX0_shareAlongLinks_100 rfl (lv_at hl 1 rfl) ?_
          refine va_get (D := (dC, dI)) (ci := 0) (v := .ref qp) (C := RX0) (T := TX0) (N := 9) hx hb hts hin0 hown hK hP 0 rfl rfl 4 (by decide) lk22 (fun _ h9 => h9) rfl dX0_shareAlongLinks_101 ?_
          refine lv_iload_n hx hb dX0_shareAlongLinks_104 rfl (lv_at hl 0 rfl) ?_
          refine lv_iload_n hx hb dX0_shareAlongLinks_105 rfl (lv_at hl 2 rfl) ?_
          refine gz_callR (W.runS (As := [.int (nI n), .int (nI ln)]) (rest := [.ref qp]) ⟨hx, hb, hml, hown, hts⟩ (cG_pointAt l n ln) (va_cwS 2 hts gX0_shareAlongLinks_X0_pointAt rfl rfl rfl (by decide +kernel) ⟨Nat.le_of_ble_eq_true rfl, Nat.le_of_ble_eq_true rfl⟩) preEq rfl rfl hl.1 rfl (lv_room (Nat.le_of_ble_eq_true rfl)) dX0_shareAlongLinks_106 ⟨Nat.le_of_ble_eq_true rfl, Nat.le_of_ble_eq_true rfl⟩) ?_
          refine lv_iconst (v := nI 1) hx hb dX0_shareAlongLinks_109 (by decide) ?_
          refine gz_iast (k := n * 13 + ln) hx hb hK hP hD hS 5 0 rfl rfl (by omega) (by omega) dX0_shareAlongLinks_110 (fun H locs hP hD hS => ?_)
          have hP : va_P (dC, dI) vwCl (gw cA h qk qc qs ql qp qv fk fc fs fl (upd g (n * 13 + ln) (nI 1)) fv (nI rn) (nI cn) sc) H := hP
          have hD : va_D A (gw cA h qk qc qs ql qp qv fk fc fs fl (upd g (n * 13 + ln) (nI 1)) fv (nI rn) (nI cn) sc) := hD
          refine lv_iinc (v := gRow n) (lv' := [(2, .int (gRow n)), (0, .ref h), (1, .int (nI ln))]) hx hb dX0_shareAlongLinks_111 hl (k := 0) rfl (gRow_dec n) (by decide) rfl (fun ls hl => ?_)
          refine lv_goto (tgt := 66) hx hb dX0_shareAlongLinks_114 (by decide) ?_
          exact ih (upd g (n * 13 + ln) (nI 1)) (by omega) (by rw [hg]; show gUp fl ln n (gUp1 fl ln n g) = _; unfold gUp1; rw [if_pos hf1, if_pos hg1]) H locs hP hD hS ls (lv_sub hl [0, 1, 2] rfl)
        · skip
          refine lv_iload_n hx hb dX0_shareAlongLinks_66 rfl (lv_at hl 0 rfl) ?_
          refine gz_if_lt (tgt := 117) (za := ((n : Nat) : Int)) hx hb dX0_shareAlongLinks_67 (by decide) (nI_toInt (by omega)) (fun c_1 => False.elim (by omega)) (fun c_1 => ?_)
          refine lv_aload_n hx hb dX0_shareAlongLinks_70 rfl (lv_at hl 1 rfl) ?_
          refine va_get (D := (dC, dI)) (ci := 0) (v := .ref ql) (C := RX0) (T := TX0) (N := 9) hx hb hts hin0 hown hK hP 0 rfl rfl 3 (by decide) lk19 (fun _ h9 => h9) rfl dX0_shareAlongLinks_71 ?_
          refine lv_iload_n hx hb dX0_shareAlongLinks_74 rfl (lv_at hl 0 rfl) ?_
          refine lv_iload_n hx hb dX0_shareAlongLinks_75 rfl (lv_at hl 2 rfl) ?_
          refine gz_callR (W.runS (As := [.int (nI n), .int (nI ln)]) (rest := [.ref ql]) ⟨hx, hb, hml, hown, hts⟩ (cG_pointAt l n ln) (va_cwS 2 hts gX0_shareAlongLinks_X0_pointAt rfl rfl rfl (by decide +kernel) ⟨Nat.le_of_ble_eq_true rfl, Nat.le_of_ble_eq_true rfl⟩) preEq rfl rfl hl.1 rfl (lv_room (Nat.le_of_ble_eq_true rfl)) dX0_shareAlongLinks_76 ⟨Nat.le_of_ble_eq_true rfl, Nat.le_of_ble_eq_true rfl⟩) ?_
          refine gz_iald (k := n * 13 + ln) hx hb hK hP 4 0 rfl rfl (by omega) (by omega) dX0_shareAlongLinks_79 ?_
          refine lv_iconst (v := nI 1) hx hb dX0_shareAlongLinks_80 (by decide) ?_
          refine lv_icmp_ne (tgt := 111) hx hb dX0_shareAlongLinks_81 (by decide) (fun c_2 => False.elim (c_2 hf1)) (fun c_2 => ?_)
          refine lv_aload_n hx hb dX0_shareAlongLinks_84 rfl (lv_at hl 1 rfl) ?_
          refine va_get (D := (dC, dI)) (ci := 0) (v := .ref qp) (C := RX0) (T := TX0) (N := 9) hx hb hts hin0 hown hK hP 0 rfl rfl 4 (by decide) lk22 (fun _ h9 => h9) rfl dX0_shareAlongLinks_85 ?_
          refine lv_iload_n hx hb dX0_shareAlongLinks_88 rfl (lv_at hl 0 rfl) ?_
          refine lv_iconst (v := nI 1) hx hb dX0_shareAlongLinks_89 (by decide) ?_
          refine gz_iadd (i := n) (j := 1) hx hb dX0_shareAlongLinks_90 ?_
          refine lv_iload_n hx hb dX0_shareAlongLinks_91 rfl (lv_at hl 2 rfl) ?_
          refine gz_callR (W.runS (As := [.int (nI (n + 1)), .int (nI ln)]) (rest := [.ref qp]) ⟨hx, hb, hml, hown, hts⟩ (cG_pointAt l (n + 1) ln) (va_cwS 2 hts gX0_shareAlongLinks_X0_pointAt rfl rfl rfl (by decide +kernel) ⟨Nat.le_of_ble_eq_true rfl, Nat.le_of_ble_eq_true rfl⟩) preEq rfl rfl hl.1 rfl (lv_room (Nat.le_of_ble_eq_true rfl)) dX0_shareAlongLinks_92 ⟨Nat.le_of_ble_eq_true rfl, Nat.le_of_ble_eq_true rfl⟩) ?_
          refine gz_iald (k := (n + 1) * 13 + ln) hx hb hK hP 5 0 rfl rfl (by omega) (by omega) dX0_shareAlongLinks_95 ?_
          refine lv_iconst (v := nI 1) hx hb dX0_shareAlongLinks_96 (by decide) ?_
          refine lv_icmp_ne (tgt := 111) hx hb dX0_shareAlongLinks_97 (by decide) (fun c_3 => ?_) (fun c_3 => False.elim (hg1 c_3))
          refine lv_iinc (v := gRow n) (lv' := [(2, .int (gRow n)), (0, .ref h), (1, .int (nI ln))]) hx hb dX0_shareAlongLinks_111 hl (k := 0) rfl (gRow_dec n) (by decide) rfl (fun ls hl => ?_)
          refine lv_goto (tgt := 66) hx hb dX0_shareAlongLinks_114 (by decide) ?_
          exact ih (g) (by omega) (by rw [hg]; show gUp fl ln n (gUp1 fl ln n g) = _; unfold gUp1; rw [if_pos hf1, if_neg hg1]) H locs hP hD hS ls (lv_sub hl [0, 1, 2] rfl)
      · skip
        refine lv_iload_n hx hb dX0_shareAlongLinks_66 rfl (lv_at hl 0 rfl) ?_
        refine gz_if_lt (tgt := 117) (za := ((n : Nat) : Int)) hx hb dX0_shareAlongLinks_67 (by decide) (nI_toInt (by omega)) (fun c_1 => False.elim (by omega)) (fun c_1 => ?_)
        refine lv_aload_n hx hb dX0_shareAlongLinks_70 rfl (lv_at hl 1 rfl) ?_
        refine va_get (D := (dC, dI)) (ci := 0) (v := .ref ql) (C := RX0) (T := TX0) (N := 9) hx hb hts hin0 hown hK hP 0 rfl rfl 3 (by decide) lk19 (fun _ h9 => h9) rfl dX0_shareAlongLinks_71 ?_
        refine lv_iload_n hx hb dX0_shareAlongLinks_74 rfl (lv_at hl 0 rfl) ?_
        refine lv_iload_n hx hb dX0_shareAlongLinks_75 rfl (lv_at hl 2 rfl) ?_
        refine gz_callR (W.runS (As := [.int (nI n), .int (nI ln)]) (rest := [.ref ql]) ⟨hx, hb, hml, hown, hts⟩ (cG_pointAt l n ln) (va_cwS 2 hts gX0_shareAlongLinks_X0_pointAt rfl rfl rfl (by decide +kernel) ⟨Nat.le_of_ble_eq_true rfl, Nat.le_of_ble_eq_true rfl⟩) preEq rfl rfl hl.1 rfl (lv_room (Nat.le_of_ble_eq_true rfl)) dX0_shareAlongLinks_76 ⟨Nat.le_of_ble_eq_true rfl, Nat.le_of_ble_eq_true rfl⟩) ?_
        refine gz_iald (k := n * 13 + ln) hx hb hK hP 4 0 rfl rfl (by omega) (by omega) dX0_shareAlongLinks_79 ?_
        refine lv_iconst (v := nI 1) hx hb dX0_shareAlongLinks_80 (by decide) ?_
        refine lv_icmp_ne (tgt := 111) hx hb dX0_shareAlongLinks_81 (by decide) (fun c_2 => ?_) (fun c_2 => False.elim (hf1 c_2))
        refine lv_iinc (v := gRow n) (lv' := [(2, .int (gRow n)), (0, .ref h), (1, .int (nI ln))]) hx hb dX0_shareAlongLinks_111 hl (k := 0) rfl (gRow_dec n) (by decide) rfl (fun ls hl => ?_)
        refine lv_goto (tgt := 66) hx hb dX0_shareAlongLinks_114 (by decide) ?_
        exact ih (g) (by omega) (by rw [hg]; show gUp fl ln n (gUp1 fl ln n g) = _; unfold gUp1; rw [if_neg hf1]) H locs hP hD hS ls (lv_sub hl [0, 1, 2] rfl)
  have loop1 : ∀ (n : Nat) (i : Nat), i + n = rn - 1 → ∀ (H : Heap) (locs : List Loc), va_P (dC, dI) vwCl (gw cA h qk qc qs ql qp qv fk fc fs fl (gDn fl ln fp i) fv (nI rn) (nI cn) sc) H → va_D A (gw cA h qk qc qs ql qp qv fk fc fs fl (gDn fl ln fp i) fv (nI rn) (nI cn) sc) → va_S A s.heap H locs → ∀ (ls : Array Slot), lv_has ls 3 [(2, .int (nI i)), (0, .ref h), (1, .int (nI ln))] → W p l e (headSpec wsX0_shareAlongLinks ({ frames := 1, cells := 0, slots := 0, locals := 21 })).room s m ([.ref h, .int (nI ln)] : List Value).toArray below meth c H locs 0 0 (MQ below (gVA (dC, dI) vwCl [(cA, .int), (cZ, .boolean)] A (gw cA h qk qc qs ql qp qv fk fc fs fl (gSh fl ln rn fp) fv (nI rn) (nI cn) sc)) ([.ref h, .int (nI ln)] : List Value).toArray s 0 0 A) (F0 m 2 ls []) := by
    intro n
    induction n with
    | zero =>
      intro i hi H locs hP hD hS ls hl
      refine lv_iload_n hx hb dX0_shareAlongLinks_2 rfl (lv_at hl 0 rfl) ?_
      refine lv_aload_n hx hb dX0_shareAlongLinks_3 rfl (lv_at hl 1 rfl) ?_
      refine va_get (D := (dC, dI)) (ci := 0) (v := .int (nI rn)) (C := RX0) (T := TX0) (N := 9) hx hb hts hin0 hown hK hP 0 rfl rfl 6 (by decide) lk28 (fun _ h9 => h9) rfl dX0_shareAlongLinks_4 ?_
      refine lv_iconst (v := nI 1) hx hb dX0_shareAlongLinks_7 (by decide) ?_
      refine gz_isub (i := rn) (j := 1) hx hb dX0_shareAlongLinks_8 (by omega) ?_
      refine gz_icmp_ge (tgt := 59) (za := ((i : Nat) : Int)) (zb := ((rn - 1 : Nat) : Int)) hx hb dX0_shareAlongLinks_9 (by decide) (nI_toInt (by omega)) (nI_toInt (by omega)) (fun c_1 => ?_) (fun c_1 => False.elim (by omega))
      refine lv_aload_n hx hb dX0_shareAlongLinks_59 rfl (lv_at hl 1 rfl) ?_
      refine va_get (D := (dC, dI)) (ci := 0) (v := .int (nI rn)) (C := RX0) (T := TX0) (N := 9) hx hb hts hin0 hown hK hP 0 rfl rfl 6 (by decide) lk28 (fun _ h9 => h9) rfl dX0_shareAlongLinks_60 ?_
      refine lv_iconst (v := nI 2) hx hb dX0_shareAlongLinks_63 (by decide) ?_
      refine lv_isub hx hb dX0_shareAlongLinks_64 ?_
      refine gz_topI (y := gRow (rn - 1)) (gRow_top hrn.1) ?_
      refine lv_istore_n (lv' := [(2, .int (gRow (rn - 1))), (0, .ref h), (1, .int (nI ln))]) hx hb dX0_shareAlongLinks_65 rfl hl (by decide) rfl (fun ls hl => ?_)
      exact loop2 (rn - 1) (gDn fl ln fp i) (by omega) (by rw [show rn - 1 = i by omega]) H locs hP hD hS ls (lv_sub hl [0, 1, 2] rfl)
    | succ n ih =>
      intro i hi H locs hP hD hS ls hl
      by_cases hf1 : fl (i * 13 + ln) = nI 1
      · by_cases hg1 : gDn fl ln fp i (i * 13 + ln) = nI 1
        · skip
          refine lv_iload_n hx hb dX0_shareAlongLinks_2 rfl (lv_at hl 0 rfl) ?_
          refine lv_aload_n hx hb dX0_shareAlongLinks_3 rfl (lv_at hl 1 rfl) ?_
          refine va_get (D := (dC, dI)) (ci := 0) (v := .int (nI rn)) (C := RX0) (T := TX0) (N := 9) hx hb hts hin0 hown hK hP 0 rfl rfl 6 (by decide) lk28 (fun _ h9 => h9) rfl dX0_shareAlongLinks_4 ?_
          refine lv_iconst (v := nI 1) hx hb dX0_shareAlongLinks_7 (by decide) ?_
          refine gz_isub (i := rn) (j := 1) hx hb dX0_shareAlongLinks_8 (by omega) ?_
          refine gz_icmp_ge (tgt := 59) (za := ((i : Nat) : Int)) (zb := ((rn - 1 : Nat) : Int)) hx hb dX0_shareAlongLinks_9 (by decide) (nI_toInt (by omega)) (nI_toInt (by omega)) (fun c_1 => False.elim (by omega)) (fun c_1 => ?_)
          refine lv_aload_n hx hb dX0_shareAlongLinks_12 rfl (lv_at hl 1 rfl) ?_
          refine va_get (D := (dC, dI)) (ci := 0) (v := .ref ql) (C := RX0) (T := TX0) (N := 9) hx hb hts hin0 hown hK hP 0 rfl rfl 3 (by decide) lk19 (fun _ h9 => h9) rfl dX0_shareAlongLinks_13 ?_
          refine lv_iload_n hx hb dX0_shareAlongLinks_16 rfl (lv_at hl 0 rfl) ?_
          refine lv_iload_n hx hb dX0_shareAlongLinks_17 rfl (lv_at hl 2 rfl) ?_
          refine gz_callR (W.runS (As := [.int (nI i), .int (nI ln)]) (rest := [.ref ql]) ⟨hx, hb, hml, hown, hts⟩ (cG_pointAt l i ln) (va_cwS 2 hts gX0_shareAlongLinks_X0_pointAt rfl rfl rfl (by decide +kernel) ⟨Nat.le_of_ble_eq_true rfl, Nat.le_of_ble_eq_true rfl⟩) preEq rfl rfl hl.1 rfl (lv_room (Nat.le_of_ble_eq_true rfl)) dX0_shareAlongLinks_18 ⟨Nat.le_of_ble_eq_true rfl, Nat.le_of_ble_eq_true rfl⟩) ?_
          refine gz_iald (k := i * 13 + ln) hx hb hK hP 4 0 rfl rfl (by omega) (by omega) dX0_shareAlongLinks_21 ?_
          refine lv_iconst (v := nI 1) hx hb dX0_shareAlongLinks_22 (by decide) ?_
          refine lv_icmp_ne (tgt := 53) hx hb dX0_shareAlongLinks_23 (by decide) (fun c_2 => False.elim (c_2 hf1)) (fun c_2 => ?_)
          refine lv_aload_n hx hb dX0_shareAlongLinks_26 rfl (lv_at hl 1 rfl) ?_
          refine va_get (D := (dC, dI)) (ci := 0) (v := .ref qp) (C := RX0) (T := TX0) (N := 9) hx hb hts hin0 hown hK hP 0 rfl rfl 4 (by decide) lk22 (fun _ h9 => h9) rfl dX0_shareAlongLinks_27 ?_
          refine lv_iload_n hx hb dX0_shareAlongLinks_30 rfl (lv_at hl 0 rfl) ?_
          refine lv_iload_n hx hb dX0_shareAlongLinks_31 rfl (lv_at hl 2 rfl) ?_
          refine gz_callR (W.runS (As := [.int (nI i), .int (nI ln)]) (rest := [.ref qp]) ⟨hx, hb, hml, hown, hts⟩ (cG_pointAt l i ln) (va_cwS 2 hts gX0_shareAlongLinks_X0_pointAt rfl rfl rfl (by decide +kernel) ⟨Nat.le_of_ble_eq_true rfl, Nat.le_of_ble_eq_true rfl⟩) preEq rfl rfl hl.1 rfl (lv_room (Nat.le_of_ble_eq_true rfl)) dX0_shareAlongLinks_32 ⟨Nat.le_of_ble_eq_true rfl, Nat.le_of_ble_eq_true rfl⟩) ?_
          refine gz_iald (k := i * 13 + ln) hx hb hK hP 5 0 rfl rfl (by omega) (by omega) dX0_shareAlongLinks_35 ?_
          refine lv_iconst (v := nI 1) hx hb dX0_shareAlongLinks_36 (by decide) ?_
          refine lv_icmp_ne (tgt := 53) hx hb dX0_shareAlongLinks_37 (by decide) (fun c_3 => False.elim (c_3 hg1)) (fun c_3 => ?_)
          refine lv_aload_n hx hb dX0_shareAlongLinks_40 rfl (lv_at hl 1 rfl) ?_
          refine va_get (D := (dC, dI)) (ci := 0) (v := .ref qp) (C := RX0) (T := TX0) (N := 9) hx hb hts hin0 hown hK hP 0 rfl rfl 4 (by decide) lk22 (fun _ h9 => h9) rfl dX0_shareAlongLinks_41 ?_
          refine lv_iload_n hx hb dX0_shareAlongLinks_44 rfl (lv_at hl 0 rfl) ?_
          refine lv_iconst (v := nI 1) hx hb dX0_shareAlongLinks_45 (by decide) ?_
          refine gz_iadd (i := i) (j := 1) hx hb dX0_shareAlongLinks_46 ?_
          refine lv_iload_n hx hb dX0_shareAlongLinks_47 rfl (lv_at hl 2 rfl) ?_
          refine gz_callR (W.runS (As := [.int (nI (i + 1)), .int (nI ln)]) (rest := [.ref qp]) ⟨hx, hb, hml, hown, hts⟩ (cG_pointAt l (i + 1) ln) (va_cwS 2 hts gX0_shareAlongLinks_X0_pointAt rfl rfl rfl (by decide +kernel) ⟨Nat.le_of_ble_eq_true rfl, Nat.le_of_ble_eq_true rfl⟩) preEq rfl rfl hl.1 rfl (lv_room (Nat.le_of_ble_eq_true rfl)) dX0_shareAlongLinks_48 ⟨Nat.le_of_ble_eq_true rfl, Nat.le_of_ble_eq_true rfl⟩) ?_
          refine lv_iconst (v := nI 1) hx hb dX0_shareAlongLinks_51 (by decide) ?_
          refine gz_iast (k := (i + 1) * 13 + ln) hx hb hK hP hD hS 5 0 rfl rfl (by omega) (by omega) dX0_shareAlongLinks_52 (fun H locs hP hD hS => ?_)
          have hP : va_P (dC, dI) vwCl (gw cA h qk qc qs ql qp qv fk fc fs fl (upd (gDn fl ln fp i) ((i + 1) * 13 + ln) (nI 1)) fv (nI rn) (nI cn) sc) H := hP
          have hD : va_D A (gw cA h qk qc qs ql qp qv fk fc fs fl (upd (gDn fl ln fp i) ((i + 1) * 13 + ln) (nI 1)) fv (nI rn) (nI cn) sc) := hD
          refine lv_iinc (v := nI (i + 1)) (lv' := [(2, .int (nI (i + 1))), (0, .ref h), (1, .int (nI ln))]) hx hb dX0_shareAlongLinks_53 hl (k := 0) rfl (nI_1 _) (by decide) rfl (fun ls hl => ?_)
          refine lv_goto (tgt := 2) hx hb dX0_shareAlongLinks_56 (by decide) ?_
          have hd : gDn fl ln fp (i + 1) = upd (gDn fl ln fp i) ((i + 1) * 13 + ln) (nI 1) := by show gDn1 fl ln i (gDn fl ln fp i) = _; unfold gDn1; rw [if_pos hf1, if_pos hg1]
          exact ih (i + 1) (by omega) H locs (by rw [hd]; exact hP) (by rw [hd]; exact hD) hS ls (lv_sub hl [0, 1, 2] rfl)
        · skip
          refine lv_iload_n hx hb dX0_shareAlongLinks_2 rfl (lv_at hl 0 rfl) ?_
          refine lv_aload_n hx hb dX0_shareAlongLinks_3 rfl (lv_at hl 1 rfl) ?_
          refine va_get (D := (dC, dI)) (ci := 0) (v := .int (nI rn)) (C := RX0) (T := TX0) (N := 9) hx hb hts hin0 hown hK hP 0 rfl rfl 6 (by decide) lk28 (fun _ h9 => h9) rfl dX0_shareAlongLinks_4 ?_
          refine lv_iconst (v := nI 1) hx hb dX0_shareAlongLinks_7 (by decide) ?_
          refine gz_isub (i := rn) (j := 1) hx hb dX0_shareAlongLinks_8 (by omega) ?_
          refine gz_icmp_ge (tgt := 59) (za := ((i : Nat) : Int)) (zb := ((rn - 1 : Nat) : Int)) hx hb dX0_shareAlongLinks_9 (by decide) (nI_toInt (by omega)) (nI_toInt (by omega)) (fun c_1 => False.elim (by omega)) (fun c_1 => ?_)
          refine lv_aload_n hx hb dX0_shareAlongLinks_12 rfl (lv_at hl 1 rfl) ?_
          refine va_get (D := (dC, dI)) (ci := 0) (v := .ref ql) (C := RX0) (T := TX0) (N := 9) hx hb hts hin0 hown hK hP 0 rfl rfl 3 (by decide) lk19 (fun _ h9 => h9) rfl dX0_shareAlongLinks_13 ?_
          refine lv_iload_n hx hb dX0_shareAlongLinks_16 rfl (lv_at hl 0 rfl) ?_
          refine lv_iload_n hx hb dX0_shareAlongLinks_17 rfl (lv_at hl 2 rfl) ?_
          refine gz_callR (W.runS (As := [.int (nI i), .int (nI ln)]) (rest := [.ref ql]) ⟨hx, hb, hml, hown, hts⟩ (cG_pointAt l i ln) (va_cwS 2 hts gX0_shareAlongLinks_X0_pointAt rfl rfl rfl (by decide +kernel) ⟨Nat.le_of_ble_eq_true rfl, Nat.le_of_ble_eq_true rfl⟩) preEq rfl rfl hl.1 rfl (lv_room (Nat.le_of_ble_eq_true rfl)) dX0_shareAlongLinks_18 ⟨Nat.le_of_ble_eq_true rfl, Nat.le_of_ble_eq_true rfl⟩) ?_
          refine gz_iald (k := i * 13 + ln) hx hb hK hP 4 0 rfl rfl (by omega) (by omega) dX0_shareAlongLinks_21 ?_
          refine lv_iconst (v := nI 1) hx hb dX0_shareAlongLinks_22 (by decide) ?_
          refine lv_icmp_ne (tgt := 53) hx hb dX0_shareAlongLinks_23 (by decide) (fun c_2 => False.elim (c_2 hf1)) (fun c_2 => ?_)
          refine lv_aload_n hx hb dX0_shareAlongLinks_26 rfl (lv_at hl 1 rfl) ?_
          refine va_get (D := (dC, dI)) (ci := 0) (v := .ref qp) (C := RX0) (T := TX0) (N := 9) hx hb hts hin0 hown hK hP 0 rfl rfl 4 (by decide) lk22 (fun _ h9 => h9) rfl dX0_shareAlongLinks_27 ?_
          refine lv_iload_n hx hb dX0_shareAlongLinks_30 rfl (lv_at hl 0 rfl) ?_
          refine lv_iload_n hx hb dX0_shareAlongLinks_31 rfl (lv_at hl 2 rfl) ?_
          refine gz_callR (W.runS (As := [.int (nI i), .int (nI ln)]) (rest := [.ref qp]) ⟨hx, hb, hml, hown, hts⟩ (cG_pointAt l i ln) (va_cwS 2 hts gX0_shareAlongLinks_X0_pointAt rfl rfl rfl (by decide +kernel) ⟨Nat.le_of_ble_eq_true rfl, Nat.le_of_ble_eq_true rfl⟩) preEq rfl rfl hl.1 rfl (lv_room (Nat.le_of_ble_eq_true rfl)) dX0_shareAlongLinks_32 ⟨Nat.le_of_ble_eq_true rfl, Nat.le_of_ble_eq_true rfl⟩) ?_
          refine gz_iald (k := i * 13 + ln) hx hb hK hP 5 0 rfl rfl (by omega) (by omega) dX0_shareAlongLinks_35 ?_
          refine lv_iconst (v := nI 1) hx hb dX0_shareAlongLinks_36 (by decide) ?_
          refine lv_icmp_ne (tgt := 53) hx hb dX0_shareAlongLinks_37 (by decide) (fun c_3 => ?_) (fun c_3 => False.elim (hg1 c_3))
          refine lv_iinc (v := nI (i + 1)) (lv' := [(2, .int (nI (i + 1))), (0, .ref h), (1, .int (nI ln))]) hx hb dX0_shareAlongLinks_53 hl (k := 0) rfl (nI_1 _) (by decide) rfl (fun ls hl => ?_)
          refine lv_goto (tgt := 2) hx hb dX0_shareAlongLinks_56 (by decide) ?_
          have hd : gDn fl ln fp (i + 1) = gDn fl ln fp i := by show gDn1 fl ln i (gDn fl ln fp i) = _; unfold gDn1; rw [if_pos hf1, if_neg hg1]
          exact ih (i + 1) (by omega) H locs (by rw [hd]; exact hP) (by rw [hd]; exact hD) hS ls (lv_sub hl [0, 1, 2] rfl)
      · skip
        refine lv_iload_n hx hb dX0_shareAlongLinks_2 rfl (lv_at hl 0 rfl) ?_
        refine lv_aload_n hx hb dX0_shareAlongLinks_3 rfl (lv_at hl 1 rfl) ?_
        refine va_get (D := (dC, dI)) (ci := 0) (v := .int (nI rn)) (C := RX0) (T := TX0) (N := 9) hx hb hts hin0 hown hK hP 0 rfl rfl 6 (by decide) lk28 (fun _ h9 => h9) rfl dX0_shareAlongLinks_4 ?_
        refine lv_iconst (v := nI 1) hx hb dX0_shareAlongLinks_7 (by decide) ?_
        refine gz_isub (i := rn) (j := 1) hx hb dX0_shareAlongLinks_8 (by omega) ?_
        refine gz_icmp_ge (tgt := 59) (za := ((i : Nat) : Int)) (zb := ((rn - 1 : Nat) : Int)) hx hb dX0_shareAlongLinks_9 (by decide) (nI_toInt (by omega)) (nI_toInt (by omega)) (fun c_1 => False.elim (by omega)) (fun c_1 => ?_)
        refine lv_aload_n hx hb dX0_shareAlongLinks_12 rfl (lv_at hl 1 rfl) ?_
        refine va_get (D := (dC, dI)) (ci := 0) (v := .ref ql) (C := RX0) (T := TX0) (N := 9) hx hb hts hin0 hown hK hP 0 rfl rfl 3 (by decide) lk19 (fun _ h9 => h9) rfl dX0_shareAlongLinks_13 ?_
        refine lv_iload_n hx hb dX0_shareAlongLinks_16 rfl (lv_at hl 0 rfl) ?_
        refine lv_iload_n hx hb dX0_shareAlongLinks_17 rfl (lv_at hl 2 rfl) ?_
        refine gz_callR (W.runS (As := [.int (nI i), .int (nI ln)]) (rest := [.ref ql]) ⟨hx, hb, hml, hown, hts⟩ (cG_pointAt l i ln) (va_cwS 2 hts gX0_shareAlongLinks_X0_pointAt rfl rfl rfl (by decide +kernel) ⟨Nat.le_of_ble_eq_true rfl, Nat.le_of_ble_eq_true rfl⟩) preEq rfl rfl hl.1 rfl (lv_room (Nat.le_of_ble_eq_true rfl)) dX0_shareAlongLinks_18 ⟨Nat.le_of_ble_eq_true rfl, Nat.le_of_ble_eq_true rfl⟩) ?_
        refine gz_iald (k := i * 13 + ln) hx hb hK hP 4 0 rfl rfl (by omega) (by omega) dX0_shareAlongLinks_21 ?_
        refine lv_iconst (v := nI 1) hx hb dX0_shareAlongLinks_22 (by decide) ?_
        refine lv_icmp_ne (tgt := 53) hx hb dX0_shareAlongLinks_23 (by decide) (fun c_2 => ?_) (fun c_2 => False.elim (hf1 c_2))
        refine lv_iinc (v := nI (i + 1)) (lv' := [(2, .int (nI (i + 1))), (0, .ref h), (1, .int (nI ln))]) hx hb dX0_shareAlongLinks_53 hl (k := 0) rfl (nI_1 _) (by decide) rfl (fun ls hl => ?_)
        refine lv_goto (tgt := 2) hx hb dX0_shareAlongLinks_56 (by decide) ?_
        have hd : gDn fl ln fp (i + 1) = gDn fl ln fp i := by show gDn1 fl ln i (gDn fl ln fp i) = _; unfold gDn1; rw [if_neg hf1]
        exact ih (i + 1) (by omega) H locs (by rw [hd]; exact hP) (by rw [hd]; exact hD) hS ls (lv_sub hl [0, 1, 2] rfl)
  refine lv_iconst (v := nI 0) hx hb dX0_shareAlongLinks_0 (by decide) ?_
  refine lv_istore_n (lv' := [(2, .int (nI 0)), (0, .ref h), (1, .int (nI ln))]) hx hb dX0_shareAlongLinks_1 rfl hl (by decide) rfl (fun ls hl => ?_)
  exact loop1 (rn - 1) 0 (by omega) H locs hP hD hS ls (lv_sub hl [0, 1, 2] rfl)
set_option maxHeartbeats 4000000 in
set_option maxRecDepth 100000 in
theorem cG_driveCoils (l : Launch) (dC : Nat → ClassId) (dI : Nat → Nat → Nat) (sz : Nat) (cA cZ : ClassId) (h qk qc qs ql qp qv : Nat) (fk fc fs fl fp fv : Nat → Int32) (rn cn : Nat) (sc : Int32)  (hrn : 1 ≤ rn ∧ rn ≤ 12) (hcn : 1 ≤ cn ∧ cn ≤ 12) (hcI : ∀ k, k < 144 → vp_in (fc k) 40) : Met l yX0_driveCoils wsX0_driveCoils ({ frames := 1, cells := 0, slots := 0, locals := 22 }) (gPw (dC, dI) vwCl [(cA, .int), (cZ, .boolean)] [.ref h] sz (gw cA h qk qc qs ql qp qv fk fc fs fl fp fv (nI rn) (nI cn) sc)) (gQA (dC, dI) vwCl [(cA, .int), (cZ, .boolean)] ((gCo fk fc fp cn (fv, nI 0) rn).2) (va_A (gw cA h qk qc qs ql qp qv fk fc fs fl fp fv (nI rn) (nI cn) sc) sz) (gw cA h qk qc qs ql qp qv fk fc fs fl fp ((gCo fk fc fp cn (fv, nI 0) rn).1) (nI rn) (nI cn) sc)) 0 0 (va_A (gw cA h qk qc qs ql qp qv fk fc fs fl fp fv (nI rn) (nI cn) sc) sz) := by
  refine Met.ofW (cc := cX0_driveCoils) (maxL := 6) (ret := (some .int)) (by decide) rfl ?_
  intro p e s m args below meth c s₁ B hml hv
  obtain ⟨rfl, hsz, hP, hK, hD0⟩ := hv
  have hx := B.exec
  have hb := B.bytes
  have hr := B.returns
  have hts := atoms_spec (ws := wsX0_driveCoils) B.pre
  have hown : s.vm.findClass RX0 = some m.cls := findClass_of_methodNamed B.named
  have hlocks := B.notSynchronized
  subst hsz
  have hD := hD0.self (sz := s.heap.size)
  generalize hAe : va_A (gw cA h qk qc qs ql qp qv fk fc fs fl fp fv (nI rn) (nI cn) sc) s.heap.size = A at hD ⊢
  have hA : ∀ q : Nat, s.heap.size ≤ q → A q := fun q h => by rw [← hAe]; exact Or.inr h
  have hS : va_S A s.heap s.heap [] := va_S.rf
  have hin0 : ∀ w ∈ u_ws RX0 TX0 9, w ∈ wsX0_driveCoils := by decide +kernel
  have lk28 := hts (.fieldLink RX0 28 "LadderGrid" "rows" "I") (by decide +kernel)
  have lk32 := hts (.fieldLink RX0 32 "LadderGrid" "columns" "I") (by decide +kernel)
  have lk9 := hts (.fieldLink RX0 9 "LadderGrid" "kinds" "[I") (by decide +kernel)
  have lk22 := hts (.fieldLink RX0 22 "LadderGrid" "powered" "[I") (by decide +kernel)
  have lk13 := hts (.fieldLink RX0 13 "LadderGrid" "cellVariables" "[I") (by decide +kernel)
  have lk25 := hts (.fieldLink RX0 25 "LadderGrid" "values" "[I") (by decide +kernel)
  have hl := lv_entry ([.ref h]) (n := 6) (Nat.le_of_ble_eq_true rfl)
  rw [lg_entry_eq]
  generalize (lg_sl ([.ref h]) ++ List.replicate (6 - (lg_sl ([.ref h])).length) Slot.unset).toArray = ls at hl ⊢
  have hl : lv_has ls 6 [(0, .ref h)] := hl
  suffices key : ∀ (H : Heap) (locs : List Loc), va_P (dC, dI) vwCl (gw cA h qk qc qs ql qp qv fk fc fs fl fp fv (nI rn) (nI cn) sc) H → va_D A (gw cA h qk qc qs ql qp qv fk fc fs fl fp fv (nI rn) (nI cn) sc) → va_S A s.heap H locs → W p l e (headSpec wsX0_driveCoils ({ frames := 1, cells := 0, slots := 0, locals := 22 })).room s m ([.ref h] : List Value).toArray below meth c H locs 0 0 (MQ below (gQA (dC, dI) vwCl [(cA, .int), (cZ, .boolean)] ((gCo fk fc fp cn (fv, nI 0) rn).2) A (gw cA h qk qc qs ql qp qv fk fc fs fl fp ((gCo fk fc fp cn (fv, nI 0) rn).1) (nI rn) (nI cn) sc)) ([.ref h] : List Value).toArray s 0 0 A) (F0 m 0 ls []) from key s.heap [] hP hD hS
  clear hP hD hS
  intro H locs hP hD hS
  have loop : ∀ (n : Nat) (i : Nat) (q : (Nat → Int32) × Int32), i + n = rn → q = gCo fk fc fp cn (fv, nI 0) i → ∀ (H : Heap) (locs : List Loc), va_P (dC, dI) vwCl (gw cA h qk qc qs ql qp qv fk fc fs fl fp q.1 (nI rn) (nI cn) sc) H → va_D A (gw cA h qk qc qs ql qp qv fk fc fs fl fp q.1 (nI rn) (nI cn) sc) → va_S A s.heap H locs → ∀ (ls : Array Slot), lv_has ls 6 [(2, .int (nI i)), (1, .int (q.2)), (0, .ref h)] → W p l e (headSpec wsX0_driveCoils ({ frames := 1, cells := 0, slots := 0, locals := 22 })).room s m ([.ref h] : List Value).toArray below meth c H locs 0 0 (MQ below (gQA (dC, dI) vwCl [(cA, .int), (cZ, .boolean)] ((gCo fk fc fp cn (fv, nI 0) rn).2) A (gw cA h qk qc qs ql qp qv fk fc fs fl fp ((gCo fk fc fp cn (fv, nI 0) rn).1) (nI rn) (nI cn) sc)) ([.ref h] : List Value).toArray s 0 0 A) (F0 m 4 ls []) := by
    intro n
    induction n with
    | zero =>
      intro i q hi hq H locs hP hD hS ls hl
      refine lv_iload_n hx hb dX0_driveCoils_4 rfl (lv_at hl 0 rfl) ?_
      refine lv_aload_n hx hb dX0_driveCoils_5 rfl (lv_at hl 2 rfl) ?_
      refine va_get (D := (dC, dI)) (ci := 0) (v := .int (nI rn)) (C := RX0) (T := TX0) (N := 9) hx hb hts hin0 hown hK hP 0 rfl rfl 6 (by decide) lk28 (fun _ h9 => h9) rfl dX0_driveCoils_6 ?_
      refine gz_icmp_ge (tgt := 96) (za := ((i : Nat) : Int)) (zb := ((rn : Nat) : Int)) hx hb dX0_driveCoils_9 (by decide) (nI_toInt (by omega)) (nI_toInt (by omega)) (fun c_1 => ?_) (fun c_1 => False.elim (by omega))
      refine lv_iload_n hx hb dX0_driveCoils_96 rfl (lv_at hl 1 rfl) ?_
      exact W.iret (v := q.2) hx hb hr (fun t ht hW => ⟨⟨q.2, (), rfl, (by rw [show rn = i by omega, ← hq]), by rw [ht]; exact (by rw [show gCo fk fc fp cn (fv, nI 0) rn = q by rw [hq, show i = rn by omega]]; exact hP), va_K.moved hW.alike hK, (by rw [show gCo fk fc fp cn (fv, nI 0) rn = q by rw [hq, show i = rn by omega]]; exact hD)⟩, hS.F ht⟩) hS.2.2 dX0_driveCoils_97
    | succ n ih =>
      intro i q hi hq H locs hP hD hS ls hl
      have hci : vp_in (fc (i * 12 + (cn - 1))) 40 := hcI _ (by omega)
      by_cases hco : 6 ≤ (fk (i * 12 + (cn - 1))).toInt
      · skip
        refine lv_iload_n hx hb dX0_driveCoils_4 rfl (lv_at hl 0 rfl) ?_
        refine lv_aload_n hx hb dX0_driveCoils_5 rfl (lv_at hl 2 rfl) ?_
        refine va_get (D := (dC, dI)) (ci := 0) (v := .int (nI rn)) (C := RX0) (T := TX0) (N := 9) hx hb hts hin0 hown hK hP 0 rfl rfl 6 (by decide) lk28 (fun _ h9 => h9) rfl dX0_driveCoils_6 ?_
        refine gz_icmp_ge (tgt := 96) (za := ((i : Nat) : Int)) (zb := ((rn : Nat) : Int)) hx hb dX0_driveCoils_9 (by decide) (nI_toInt (by omega)) (nI_toInt (by omega)) (fun c_1 => False.elim (by omega)) (fun c_1 => ?_)
        refine lv_iload_n hx hb dX0_driveCoils_12 rfl (lv_at hl 0 rfl) ?_
        refine lv_aload_n hx hb dX0_driveCoils_13 rfl (lv_at hl 2 rfl) ?_
        refine va_get (D := (dC, dI)) (ci := 0) (v := .int (nI cn)) (C := RX0) (T := TX0) (N := 9) hx hb hts hin0 hown hK hP 0 rfl rfl 7 (by decide) lk32 (fun _ h9 => h9) rfl dX0_driveCoils_14 ?_
        refine lv_iconst (v := nI 1) hx hb dX0_driveCoils_17 (by decide) ?_
        refine gz_isub (i := cn) (j := 1) hx hb dX0_driveCoils_18 (by omega) ?_
        refine gz_callR (W.runS (As := [.int (nI i), .int (nI (cn - 1))]) (rest := []) ⟨hx, hb, hml, hown, hts⟩ (cG_cellAt l i (cn - 1)) (va_cwS 2 hts gX0_driveCoils_X0_cellAt rfl rfl rfl (by decide +kernel) ⟨Nat.le_of_ble_eq_true rfl, Nat.le_of_ble_eq_true rfl⟩) preEq rfl rfl hl.1 rfl (lv_room (Nat.le_of_ble_eq_true rfl)) dX0_driveCoils_19 ⟨Nat.le_of_ble_eq_true rfl, Nat.le_of_ble_eq_true rfl⟩) ?_
        refine lv_istore_n (lv' := [(3, .int (nI (i * 12 + (cn - 1)))), (2, .int (nI i)), (1, .int (q.2)), (0, .ref h)]) hx hb dX0_driveCoils_22 rfl hl (by decide) rfl (fun ls hl => ?_)
        refine lv_aload_n hx hb dX0_driveCoils_23 rfl (lv_at hl 3 rfl) ?_
        refine va_get (D := (dC, dI)) (ci := 0) (v := .ref qk) (C := RX0) (T := TX0) (N := 9) hx hb hts hin0 hown hK hP 0 rfl rfl 0 (by decide) lk9 (fun _ h9 => h9) rfl dX0_driveCoils_24 ?_
        refine lv_iload_n hx hb dX0_driveCoils_27 rfl (lv_at hl 0 rfl) ?_
        refine gz_iald (k := i * 12 + (cn - 1)) hx hb hK hP 1 0 rfl rfl (by omega) (by omega) dX0_driveCoils_28 ?_
        refine gz_callR (W.runS (As := [.int (fk (i * 12 + (cn - 1)))]) (rest := []) ⟨hx, hb, hml, hown, hts⟩ (cG_isCoil l (fk (i * 12 + (cn - 1)))) (va_cwS 1 hts gX0_driveCoils_X0_isCoil rfl rfl rfl (by decide +kernel) ⟨Nat.le_of_ble_eq_true rfl, Nat.le_of_ble_eq_true rfl⟩) preEq rfl rfl hl.1 rfl (lv_room (Nat.le_of_ble_eq_true rfl)) dX0_driveCoils_29 ⟨Nat.le_of_ble_eq_true rfl, Nat.le_of_ble_eq_true rfl⟩) ?_
        refine gz_ifeqB (tgt := 90) hx hb dX0_driveCoils_32 (by decide) (fun c_2 => False.elim (c_2 hco)) (fun c_2 => ?_)
        refine lv_aload_n hx hb dX0_driveCoils_35 rfl (lv_at hl 3 rfl) ?_
        refine va_get (D := (dC, dI)) (ci := 0) (v := .ref qp) (C := RX0) (T := TX0) (N := 9) hx hb hts hin0 hown hK hP 0 rfl rfl 4 (by decide) lk22 (fun _ h9 => h9) rfl dX0_driveCoils_36 ?_
        refine lv_iload_n hx hb dX0_driveCoils_39 rfl (lv_at hl 1 rfl) ?_
        refine lv_aload_n hx hb dX0_driveCoils_40 rfl (lv_at hl 3 rfl) ?_
        refine va_get (D := (dC, dI)) (ci := 0) (v := .int (nI cn)) (C := RX0) (T := TX0) (N := 9) hx hb hts hin0 hown hK hP 0 rfl rfl 7 (by decide) lk32 (fun _ h9 => h9) rfl dX0_driveCoils_41 ?_
        refine lv_iconst (v := nI 1) hx hb dX0_driveCoils_44 (by decide) ?_
        refine gz_isub (i := cn) (j := 1) hx hb dX0_driveCoils_45 (by omega) ?_
        refine gz_callR (W.runS (As := [.int (nI i), .int (nI (cn - 1))]) (rest := [.ref qp]) ⟨hx, hb, hml, hown, hts⟩ (cG_pointAt l i (cn - 1)) (va_cwS 2 hts gX0_driveCoils_X0_pointAt rfl rfl rfl (by decide +kernel) ⟨Nat.le_of_ble_eq_true rfl, Nat.le_of_ble_eq_true rfl⟩) preEq rfl rfl hl.1 rfl (lv_room (Nat.le_of_ble_eq_true rfl)) dX0_driveCoils_46 ⟨Nat.le_of_ble_eq_true rfl, Nat.le_of_ble_eq_true rfl⟩) ?_
        refine gz_iald (k := i * 13 + (cn - 1)) hx hb hK hP 5 0 rfl rfl (by omega) (by omega) dX0_driveCoils_49 ?_
        refine lv_istore (lv' := [(4, .int (fp (i * 13 + (cn - 1)))), (3, .int (nI (i * 12 + (cn - 1)))), (2, .int (nI i)), (1, .int (q.2)), (0, .ref h)]) hx hb dX0_driveCoils_50 hl (by decide) rfl (fun ls hl => ?_)
        refine lv_aload_n hx hb dX0_driveCoils_52 rfl (lv_at hl 4 rfl) ?_
        refine va_get (D := (dC, dI)) (ci := 0) (v := .ref qc) (C := RX0) (T := TX0) (N := 9) hx hb hts hin0 hown hK hP 0 rfl rfl 1 (by decide) lk13 (fun _ h9 => h9) rfl dX0_driveCoils_53 ?_
        refine lv_iload_n hx hb dX0_driveCoils_56 rfl (lv_at hl 1 rfl) ?_
        refine gz_iald (k := i * 12 + (cn - 1)) hx hb hK hP 2 0 rfl rfl (by omega) (by omega) dX0_driveCoils_57 ?_
        refine lv_istore (lv' := [(5, .int (fc (i * 12 + (cn - 1)))), (4, .int (fp (i * 13 + (cn - 1)))), (3, .int (nI (i * 12 + (cn - 1)))), (2, .int (nI i)), (1, .int (q.2)), (0, .ref h)]) hx hb dX0_driveCoils_58 hl (by decide) rfl (fun ls hl => ?_)
        refine lv_aload_n hx hb dX0_driveCoils_60 rfl (lv_at hl 5 rfl) ?_
        refine va_get (D := (dC, dI)) (ci := 0) (v := .ref qv) (C := RX0) (T := TX0) (N := 9) hx hb hts hin0 hown hK hP 0 rfl rfl 5 (by decide) lk25 (fun _ h9 => h9) rfl dX0_driveCoils_61 ?_
        refine lv_iload hx hb dX0_driveCoils_64 (lv_at hl 0 rfl) ?_
        refine lv_aload_n hx hb dX0_driveCoils_66 rfl (lv_at hl 5 rfl) ?_
        refine va_get (D := (dC, dI)) (ci := 0) (v := .ref qk) (C := RX0) (T := TX0) (N := 9) hx hb hts hin0 hown hK hP 0 rfl rfl 0 (by decide) lk9 (fun _ h9 => h9) rfl dX0_driveCoils_67 ?_
        refine lv_iload_n hx hb dX0_driveCoils_70 rfl (lv_at hl 2 rfl) ?_
        refine gz_iald (k := i * 12 + (cn - 1)) hx hb hK hP 1 0 rfl rfl (by omega) (by omega) dX0_driveCoils_71 ?_
        refine lv_iload hx hb dX0_driveCoils_72 (lv_at hl 1 rfl) ?_
        refine lv_aload_n hx hb dX0_driveCoils_74 rfl (lv_at hl 5 rfl) ?_
        refine va_get (D := (dC, dI)) (ci := 0) (v := .ref qv) (C := RX0) (T := TX0) (N := 9) hx hb hts hin0 hown hK hP 0 rfl rfl 5 (by decide) lk25 (fun _ h9 => h9) rfl dX0_driveCoils_75 ?_
        refine lv_iload hx hb dX0_driveCoils_78 (lv_at hl 0 rfl) ?_
        refine va_iald hx hb hK hP 6 0 rfl rfl hci dX0_driveCoils_80 ?_
        refine gz_callR (W.runS (As := [.int (fk (i * 12 + (cn - 1))), .int (fp (i * 13 + (cn - 1))), .int (q.1 (fc (i * 12 + (cn - 1))).toNatClampNeg)]) (rest := [.int (fc (i * 12 + (cn - 1))), .ref qv]) ⟨hx, hb, hml, hown, hts⟩ (cG_coilValue l (fk (i * 12 + (cn - 1))) (fp (i * 13 + (cn - 1))) (q.1 (fc (i * 12 + (cn - 1))).toNatClampNeg)) (va_cwS 3 hts gX0_driveCoils_X0_coilValue rfl rfl rfl (by decide +kernel) ⟨Nat.le_of_ble_eq_true rfl, Nat.le_of_ble_eq_true rfl⟩) preEq rfl rfl hl.1 rfl (lv_room (Nat.le_of_ble_eq_true rfl)) dX0_driveCoils_81 ⟨Nat.le_of_ble_eq_true rfl, Nat.le_of_ble_eq_true rfl⟩) ?_
        refine va_iast hx hb hK hP hD hS 6 0 rfl rfl hci dX0_driveCoils_84 (fun H locs hP hD hS => ?_)
        have hP : va_P (dC, dI) vwCl (gw cA h qk qc qs ql qp qv fk fc fs fl fp (upd q.1 (fc (i * 12 + (cn - 1))).toNatClampNeg (gCoil (fk (i * 12 + (cn - 1))) (fp (i * 13 + (cn - 1))) (q.1 (fc (i * 12 + (cn - 1))).toNatClampNeg))) (nI rn) (nI cn) sc) H := hP
        have hD : va_D A (gw cA h qk qc qs ql qp qv fk fc fs fl fp (upd q.1 (fc (i * 12 + (cn - 1))).toNatClampNeg (gCoil (fk (i * 12 + (cn - 1))) (fp (i * 13 + (cn - 1))) (q.1 (fc (i * 12 + (cn - 1))).toNatClampNeg))) (nI rn) (nI cn) sc) := hD
        refine lv_iload_n hx hb dX0_driveCoils_85 rfl (lv_at hl 4 rfl) ?_
        refine lv_iload hx hb dX0_driveCoils_86 (lv_at hl 1 rfl) ?_
        refine lv_iadd hx hb dX0_driveCoils_88 ?_
        refine lv_istore_n (lv' := [(1, .int (q.2 + (fp (i * 13 + (cn - 1))))), (5, .int (fc (i * 12 + (cn - 1)))), (4, .int (fp (i * 13 + (cn - 1)))), (3, .int (nI (i * 12 + (cn - 1)))), (2, .int (nI i)), (0, .ref h)]) hx hb dX0_driveCoils_89 rfl hl (by decide) rfl (fun ls hl => ?_)
        refine lv_iinc (v := nI (i + 1)) (lv' := [(2, .int (nI (i + 1))), (1, .int (q.2 + (fp (i * 13 + (cn - 1))))), (5, .int (fc (i * 12 + (cn - 1)))), (4, .int (fp (i * 13 + (cn - 1)))), (3, .int (nI (i * 12 + (cn - 1)))), (0, .ref h)]) hx hb dX0_driveCoils_90 hl (k := 4) rfl (nI_1 _) (by decide) rfl (fun ls hl => ?_)
        refine lv_goto (tgt := 4) hx hb dX0_driveCoils_93 (by decide) ?_
        exact ih (i + 1) (upd q.1 (fc (i * 12 + (cn - 1))).toNatClampNeg (gCoil (fk (i * 12 + (cn - 1))) (fp (i * 13 + (cn - 1))) (q.1 (fc (i * 12 + (cn - 1))).toNatClampNeg)), q.2 + (fp (i * 13 + (cn - 1)))) (by omega) (by show _ = gCo1 _ _ _ _ _ (gCo fk fc fp cn (fv, nI 0) i); rw [← hq]; unfold gCo1; rw [if_pos hco]) H locs hP hD hS ls (lv_sub hl [0, 1, 5] rfl)
      · skip
        refine lv_iload_n hx hb dX0_driveCoils_4 rfl (lv_at hl 0 rfl) ?_
        refine lv_aload_n hx hb dX0_driveCoils_5 rfl (lv_at hl 2 rfl) ?_
        refine va_get (D := (dC, dI)) (ci := 0) (v := .int (nI rn)) (C := RX0) (T := TX0) (N := 9) hx hb hts hin0 hown hK hP 0 rfl rfl 6 (by decide) lk28 (fun _ h9 => h9) rfl dX0_driveCoils_6 ?_
        refine gz_icmp_ge (tgt := 96) (za := ((i : Nat) : Int)) (zb := ((rn : Nat) : Int)) hx hb dX0_driveCoils_9 (by decide) (nI_toInt (by omega)) (nI_toInt (by omega)) (fun c_1 => False.elim (by omega)) (fun c_1 => ?_)
        refine lv_iload_n hx hb dX0_driveCoils_12 rfl (lv_at hl 0 rfl) ?_
        refine lv_aload_n hx hb dX0_driveCoils_13 rfl (lv_at hl 2 rfl) ?_
        refine va_get (D := (dC, dI)) (ci := 0) (v := .int (nI cn)) (C := RX0) (T := TX0) (N := 9) hx hb hts hin0 hown hK hP 0 rfl rfl 7 (by decide) lk32 (fun _ h9 => h9) rfl dX0_driveCoils_14 ?_
        refine lv_iconst (v := nI 1) hx hb dX0_driveCoils_17 (by decide) ?_
        refine gz_isub (i := cn) (j := 1) hx hb dX0_driveCoils_18 (by omega) ?_
        refine gz_callR (W.runS (As := [.int (nI i), .int (nI (cn - 1))]) (rest := []) ⟨hx, hb, hml, hown, hts⟩ (cG_cellAt l i (cn - 1)) (va_cwS 2 hts gX0_driveCoils_X0_cellAt rfl rfl rfl (by decide +kernel) ⟨Nat.le_of_ble_eq_true rfl, Nat.le_of_ble_eq_true rfl⟩) preEq rfl rfl hl.1 rfl (lv_room (Nat.le_of_ble_eq_true rfl)) dX0_driveCoils_19 ⟨Nat.le_of_ble_eq_true rfl, Nat.le_of_ble_eq_true rfl⟩) ?_
        refine lv_istore_n (lv' := [(3, .int (nI (i * 12 + (cn - 1)))), (2, .int (nI i)), (1, .int (q.2)), (0, .ref h)]) hx hb dX0_driveCoils_22 rfl hl (by decide) rfl (fun ls hl => ?_)
        refine lv_aload_n hx hb dX0_driveCoils_23 rfl (lv_at hl 3 rfl) ?_
        refine va_get (D := (dC, dI)) (ci := 0) (v := .ref qk) (C := RX0) (T := TX0) (N := 9) hx hb hts hin0 hown hK hP 0 rfl rfl 0 (by decide) lk9 (fun _ h9 => h9) rfl dX0_driveCoils_24 ?_
        refine lv_iload_n hx hb dX0_driveCoils_27 rfl (lv_at hl 0 rfl) ?_
        refine gz_iald (k := i * 12 + (cn - 1)) hx hb hK hP 1 0 rfl rfl (by omega) (by omega) dX0_driveCoils_28 ?_
        refine gz_callR (W.runS (As := [.int (fk (i * 12 + (cn - 1)))]) (rest := []) ⟨hx, hb, hml, hown, hts⟩ (cG_isCoil l (fk (i * 12 + (cn - 1)))) (va_cwS 1 hts gX0_driveCoils_X0_isCoil rfl rfl rfl (by decide +kernel) ⟨Nat.le_of_ble_eq_true rfl, Nat.le_of_ble_eq_true rfl⟩) preEq rfl rfl hl.1 rfl (lv_room (Nat.le_of_ble_eq_true rfl)) dX0_driveCoils_29 ⟨Nat.le_of_ble_eq_true rfl, Nat.le_of_ble_eq_true rfl⟩) ?_
        refine gz_ifeqB (tgt := 90) hx hb dX0_driveCoils_32 (by decide) (fun c_2 => ?_) (fun c_2 => False.elim (hco c_2))
        refine lv_iinc (v := nI (i + 1)) (lv' := [(2, .int (nI (i + 1))), (3, .int (nI (i * 12 + (cn - 1)))), (1, .int (q.2)), (0, .ref h)]) hx hb dX0_driveCoils_90 hl (k := 1) rfl (nI_1 _) (by decide) rfl (fun ls hl => ?_)
        refine lv_goto (tgt := 4) hx hb dX0_driveCoils_93 (by decide) ?_
        exact ih (i + 1) (q.1, q.2) (by omega) (by show _ = gCo1 _ _ _ _ _ (gCo fk fc fp cn (fv, nI 0) i); rw [← hq]; unfold gCo1; rw [if_neg hco]) H locs hP hD hS ls (lv_sub hl [0, 2, 3] rfl)
  refine lv_iconst (v := nI 0) hx hb dX0_driveCoils_0 (by decide) ?_
  refine lv_istore_n (lv' := [(1, .int (nI 0)), (0, .ref h)]) hx hb dX0_driveCoils_1 rfl hl (by decide) rfl (fun ls hl => ?_)
  refine lv_iconst (v := nI 0) hx hb dX0_driveCoils_2 (by decide) ?_
  refine lv_istore_n (lv' := [(2, .int (nI 0)), (1, .int (nI 0)), (0, .ref h)]) hx hb dX0_driveCoils_3 rfl hl (by decide) rfl (fun ls hl => ?_)
  exact loop rn 0 (fv, nI 0) (by omega) rfl H locs hP hD hS ls (lv_sub hl [0, 1, 2] rfl)
end
section
set_option maxHeartbeats 4000000 in
set_option maxRecDepth 100000 in
theorem cG_scan (l : Launch) (dC : Nat → ClassId) (dI : Nat → Nat → Nat) (sz : Nat) (cA cZ : ClassId) (h qk qc qs ql qp qv : Nat) (fk fc fs fl fp fv : Nat → Int32) (rn cn : Nat) (sc : Int32)  (hrn : 1 ≤ rn ∧ rn ≤ 12) (hcn : 1 ≤ cn ∧ cn ≤ 12) (hcI : ∀ k, k < 144 → vp_in (fc k) 40) : Met l yX0_scan wsX0_scan ({ frames := 2, cells := 0, slots := 0, locals := 47 }) (gPw (dC, dI) vwCl [(cA, .int), (cZ, .boolean)] [.ref h] sz (gw cA h qk qc qs ql qp qv fk fc fs fl fp fv (nI rn) (nI cn) sc)) (gQA (dC, dI) vwCl [(cA, .int), (cZ, .boolean)] ((gCo fk fc (gCols fk fc fl fv rn (gP0 fp rn, fs) cn).1 cn (fv, nI 0) rn).2) (va_A (gw cA h qk qc qs ql qp qv fk fc fs fl fp fv (nI rn) (nI cn) sc) sz) (gw cA h qk qc qs ql qp qv fk fc ((gCols fk fc fl fv rn (gP0 fp rn, fs) cn).2) fl ((gCols fk fc fl fv rn (gP0 fp rn, fs) cn).1) ((gCo fk fc (gCols fk fc fl fv rn (gP0 fp rn, fs) cn).1 cn (fv, nI 0) rn).1) (nI rn) (nI cn) (nI 1))) 0 0 (va_A (gw cA h qk qc qs ql qp qv fk fc fs fl fp fv (nI rn) (nI cn) sc) sz) := by
  refine Met.ofW (cc := cX0_scan) (maxL := 2) (ret := (some .int)) (by decide) rfl ?_
  intro p e s m args below meth c s₁ B hml hv
  obtain ⟨rfl, hsz, hP, hK, hD0⟩ := hv
  have hx := B.exec
  have hb := B.bytes
  have hr := B.returns
  have hts := atoms_spec (ws := wsX0_scan) B.pre
  have hown : s.vm.findClass RX0 = some m.cls := findClass_of_methodNamed B.named
  have hlocks := B.notSynchronized
  subst hsz
  have hD := hD0.self (sz := s.heap.size)
  generalize hAe : va_A (gw cA h qk qc qs ql qp qv fk fc fs fl fp fv (nI rn) (nI cn) sc) s.heap.size = A at hD ⊢
  have hA : ∀ q : Nat, s.heap.size ≤ q → A q := fun q h => by rw [← hAe]; exact Or.inr h
  have hS : va_S A s.heap s.heap [] := va_S.rf
  have hin0 : ∀ w ∈ u_ws RX0 TX0 9, w ∈ wsX0_scan := by decide +kernel
  have lk28 := hts (.fieldLink RX0 28 "LadderGrid" "rows" "I") (by decide +kernel)
  have lk22 := hts (.fieldLink RX0 22 "LadderGrid" "powered" "[I") (by decide +kernel)
  have lk32 := hts (.fieldLink RX0 32 "LadderGrid" "columns" "I") (by decide +kernel)
  have lk35 := hts (.fieldLink RX0 35 "LadderGrid" "scanned" "Z") (by decide +kernel)
  have hl := lv_entry ([.ref h]) (n := 2) (Nat.le_of_ble_eq_true rfl)
  rw [lg_entry_eq]
  generalize (lg_sl ([.ref h]) ++ List.replicate (2 - (lg_sl ([.ref h])).length) Slot.unset).toArray = ls at hl ⊢
  have hl : lv_has ls 2 [(0, .ref h)] := hl
  suffices key : ∀ (H : Heap) (locs : List Loc), va_P (dC, dI) vwCl (gw cA h qk qc qs ql qp qv fk fc fs fl fp fv (nI rn) (nI cn) sc) H → va_D A (gw cA h qk qc qs ql qp qv fk fc fs fl fp fv (nI rn) (nI cn) sc) → va_S A s.heap H locs → W p l e (headSpec wsX0_scan ({ frames := 2, cells := 0, slots := 0, locals := 47 })).room s m ([.ref h] : List Value).toArray below meth c H locs 0 0 (MQ below (gQA (dC, dI) vwCl [(cA, .int), (cZ, .boolean)] ((gCo fk fc (gCols fk fc fl fv rn (gP0 fp rn, fs) cn).1 cn (fv, nI 0) rn).2) A (gw cA h qk qc qs ql qp qv fk fc ((gCols fk fc fl fv rn (gP0 fp rn, fs) cn).2) fl ((gCols fk fc fl fv rn (gP0 fp rn, fs) cn).1) ((gCo fk fc (gCols fk fc fl fv rn (gP0 fp rn, fs) cn).1 cn (fv, nI 0) rn).1) (nI rn) (nI cn) (nI 1))) ([.ref h] : List Value).toArray s 0 0 A) (F0 m 0 ls []) from key s.heap [] hP hD hS
  clear hP hD hS
  intro H locs hP hD hS
  have loop2 : ∀ (n : Nat) (j : Nat) (q : (Nat → Int32) × (Nat → Int32)), j + n = cn → q = gCols fk fc fl fv rn (gP0 fp rn, fs) j → ∀ (H : Heap) (locs : List Loc), va_P (dC, dI) vwCl (gw cA h qk qc qs ql qp qv fk fc q.2 fl q.1 fv (nI rn) (nI cn) sc) H → va_D A (gw cA h qk qc qs ql qp qv fk fc q.2 fl q.1 fv (nI rn) (nI cn) sc) → va_S A s.heap H locs → ∀ (ls : Array Slot), lv_has ls 2 [(1, .int (nI j)), (0, .ref h)] → W p l e (headSpec wsX0_scan ({ frames := 2, cells := 0, slots := 0, locals := 47 })).room s m ([.ref h] : List Value).toArray below meth c H locs 0 0 (MQ below (gQA (dC, dI) vwCl [(cA, .int), (cZ, .boolean)] ((gCo fk fc (gCols fk fc fl fv rn (gP0 fp rn, fs) cn).1 cn (fv, nI 0) rn).2) A (gw cA h qk qc qs ql qp qv fk fc ((gCols fk fc fl fv rn (gP0 fp rn, fs) cn).2) fl ((gCols fk fc fl fv rn (gP0 fp rn, fs) cn).1) ((gCo fk fc (gCols fk fc fl fv rn (gP0 fp rn, fs) cn).1 cn (fv, nI 0) rn).1) (nI rn) (nI cn) (nI 1))) ([.ref h] : List Value).toArray s 0 0 A) (F0 m 29 ls []) := by
    intro n
    induction n with
    | zero =>
      intro j q hj hq H locs hP hD hS ls hl
      refine lv_iload_n hx hb dX0_scan_29 rfl (lv_at hl 0 rfl) ?_
      refine lv_aload_n hx hb dX0_scan_30 rfl (lv_at hl 1 rfl) ?_
      refine va_get (D := (dC, dI)) (ci := 0) (v := .int (nI cn)) (C := RX0) (T := TX0) (N := 9) hx hb hts hin0 hown hK hP 0 rfl rfl 7 (by decide) lk32 (fun _ h9 => h9) rfl dX0_scan_31 ?_
      refine gz_icmp_ge (tgt := 55) (za := ((j : Nat) : Int)) (zb := ((cn : Nat) : Int)) hx hb dX0_scan_34 (by decide) (nI_toInt (by omega)) (nI_toInt (by omega)) (fun c_1 => ?_) (fun c_1 => False.elim (by omega))
      refine lv_aload_n hx hb dX0_scan_55 rfl (lv_at hl 1 rfl) ?_
      refine lv_iconst (v := nI 1) hx hb dX0_scan_56 (by decide) ?_
      refine va_put (D := (dC, dI)) (ci := 0) (v := .int (nI 1)) (ty := .boolean) (C := RX0) (T := TX0) (N := 9) hx hb hts hin0 tyX0 tyX0_ok nmX0 hown hK hP hD hS 0 rfl rfl 8 (by decide) lk35 (fun _ h9 => h9) rfl (by decide +kernel) rfl rfl (Nat.le_of_ble_eq_true rfl) dX0_scan_57 (fun H locs hP hD hS => ?_)
      have hP : va_P (dC, dI) vwCl (gw cA h qk qc qs ql qp qv fk fc q.2 fl q.1 fv (nI rn) (nI cn) (nI 1)) H := hP
      have hD : va_D A (gw cA h qk qc qs ql qp qv fk fc q.2 fl q.1 fv (nI rn) (nI cn) (nI 1)) := hD
      refine lv_aload_n hx hb dX0_scan_60 rfl (lv_at hl 1 rfl) ?_
      refine gz_calli (wc := (gw cA h qk qc qs ql qp qv fk fc q.2 fl q.1 fv (nI rn) (nI cn) (nI 1))) (wr := []) hP hD hS hA [0, 1, 2, 3, 4, 5, 6] [] rfl rfl (by decide) (by decide) (va_runV (As := []) (rest := []) ⟨hx, hb, hml, hown, hts⟩ (cG_driveCoils l dC dI H.size cA cZ h qk qc qs ql qp qv fk fc q.2 fl q.1 fv rn cn (nI 1) hrn hcn hcI) (cwV 0 hts gX0_scan_X0_driveCoils rfl rfl rfl (by decide +kernel) ⟨Nat.le_of_ble_eq_true rfl, Nat.le_of_ble_eq_true rfl⟩) (gz_preVw (q := (RX0, TX0, 9)) (ci := 0) hK hP hD [0, 1, 2, 3, 4, 5, 6] (by decide) rfl rfl rfl rfl) rfl rfl hl.1 rfl (lv_room (Nat.le_of_ble_eq_true rfl)) dX0_scan_61 ⟨Nat.le_of_ble_eq_true rfl, Nat.le_of_ble_eq_true rfl⟩) (fun H locs hP hD hS => ?_)
      have hP : va_P (dC, dI) vwCl (gw cA h qk qc qs ql qp qv fk fc q.2 fl q.1 ((gCo fk fc q.1 cn (fv, nI 0) rn).1) (nI rn) (nI cn) (nI 1)) H := hP
      have hD : va_D A (gw cA h qk qc qs ql qp qv fk fc q.2 fl q.1 ((gCo fk fc q.1 cn (fv, nI 0) rn).1) (nI rn) (nI cn) (nI 1)) := hD
      exact W.iret (v := (gCo fk fc q.1 cn (fv, nI 0) rn).2) hx hb hr (fun t ht hW => ⟨⟨(gCo fk fc q.1 cn (fv, nI 0) rn).2, (), rfl, (by rw [show (gCols fk fc fl fv rn (gP0 fp rn, fs) cn) = q by rw [hq, show j = cn by omega]]), by rw [ht]; exact (by rw [show (gCols fk fc fl fv rn (gP0 fp rn, fs) cn) = q by rw [hq, show j = cn by omega]]; exact hP), va_K.moved hW.alike hK, (by rw [show (gCols fk fc fl fv rn (gP0 fp rn, fs) cn) = q by rw [hq, show j = cn by omega]]; exact hD)⟩, hS.F ht⟩) hS.2.2 dX0_scan_64
    | succ n ih =>
      intro j q hj hq H locs hP hD hS ls hl
      refine lv_iload_n hx hb dX0_scan_29 rfl (lv_at hl 0 rfl) ?_
      refine lv_aload_n hx hb dX0_scan_30 rfl (lv_at hl 1 rfl) ?_
      refine va_get (D := (dC, dI)) (ci := 0) (v := .int (nI cn)) (C := RX0) (T := TX0) (N := 9) hx hb hts hin0 hown hK hP 0 rfl rfl 7 (by decide) lk32 (fun _ h9 => h9) rfl dX0_scan_31 ?_
      refine gz_icmp_ge (tgt := 55) (za := ((j : Nat) : Int)) (zb := ((cn : Nat) : Int)) hx hb dX0_scan_34 (by decide) (nI_toInt (by omega)) (nI_toInt (by omega)) (fun c_1 => False.elim (by omega)) (fun c_1 => ?_)
      refine lv_aload_n hx hb dX0_scan_37 rfl (lv_at hl 1 rfl) ?_
      refine lv_iload_n hx hb dX0_scan_38 rfl (lv_at hl 0 rfl) ?_
      refine gz_callv (wc := (gw cA h qk qc qs ql qp qv fk fc q.2 fl q.1 fv (nI rn) (nI cn) sc)) (wr := []) hP hD hS hA [0, 1, 2, 3, 4, 5, 6] [] rfl rfl (by decide) (by decide) (va_runV (As := [.int (nI j)]) (rest := []) ⟨hx, hb, hml, hown, hts⟩ (cG_passColumn l dC dI H.size cA cZ h qk qc qs ql qp qv fk fc q.2 fl q.1 fv rn cn sc j hrn hcn (by omega) hcI) (cwV 1 hts gX0_scan_X0_passColumn rfl rfl rfl (by decide +kernel) ⟨Nat.le_of_ble_eq_true rfl, Nat.le_of_ble_eq_true rfl⟩) (gz_preVw (q := (RX0, TX0, 9)) (ci := 0) hK hP hD [0, 1, 2, 3, 4, 5, 6] (by decide) rfl rfl rfl rfl) rfl rfl hl.1 rfl (lv_room (Nat.le_of_ble_eq_true rfl)) dX0_scan_39 ⟨Nat.le_of_ble_eq_true rfl, Nat.le_of_ble_eq_true rfl⟩) (fun H locs hP hD hS => ?_)
      have hP : va_P (dC, dI) vwCl (gw cA h qk qc qs ql qp qv fk fc ((gPs fk fc fv j (q.1, q.2) rn).2) fl ((gPs fk fc fv j (q.1, q.2) rn).1) fv (nI rn) (nI cn) sc) H := hP
      have hD : va_D A (gw cA h qk qc qs ql qp qv fk fc ((gPs fk fc fv j (q.1, q.2) rn).2) fl ((gPs fk fc fv j (q.1, q.2) rn).1) fv (nI rn) (nI cn) sc) := hD
      refine lv_aload_n hx hb dX0_scan_42 rfl (lv_at hl 1 rfl) ?_
      refine lv_iload_n hx hb dX0_scan_43 rfl (lv_at hl 0 rfl) ?_
      refine lv_iconst (v := nI 1) hx hb dX0_scan_44 (by decide) ?_
      refine gz_iadd (i := j) (j := 1) hx hb dX0_scan_45 ?_
      refine gz_callv (wc := (gw cA h qk qc qs ql qp qv fk fc ((gPs fk fc fv j (q.1, q.2) rn).2) fl ((gPs fk fc fv j (q.1, q.2) rn).1) fv (nI rn) (nI cn) sc)) (wr := []) hP hD hS hA [0, 1, 2, 3, 4, 5, 6] [] rfl rfl (by decide) (by decide) (va_runV (As := [.int (nI (j + 1))]) (rest := []) ⟨hx, hb, hml, hown, hts⟩ (cG_share l dC dI H.size cA cZ h qk qc qs ql qp qv fk fc ((gPs fk fc fv j (q.1, q.2) rn).2) fl ((gPs fk fc fv j (q.1, q.2) rn).1) fv rn cn sc (j + 1) hrn hcn (by omega)) (cwV 1 hts gX0_scan_X0_shareAlongLinks rfl rfl rfl (by decide +kernel) ⟨Nat.le_of_ble_eq_true rfl, Nat.le_of_ble_eq_true rfl⟩) (gz_preVw (q := (RX0, TX0, 9)) (ci := 0) hK hP hD [0, 1, 2, 3, 4, 5, 6] (by decide) rfl rfl rfl rfl) rfl rfl hl.1 rfl (lv_room (Nat.le_of_ble_eq_true rfl)) dX0_scan_46 ⟨Nat.le_of_ble_eq_true rfl, Nat.le_of_ble_eq_true rfl⟩) (fun H locs hP hD hS => ?_)
      have hP : va_P (dC, dI) vwCl (gw cA h qk qc qs ql qp qv fk fc ((gPs fk fc fv j (q.1, q.2) rn).2) fl (gSh fl (j + 1) rn ((gPs fk fc fv j (q.1, q.2) rn).1)) fv (nI rn) (nI cn) sc) H := hP
      have hD : va_D A (gw cA h qk qc qs ql qp qv fk fc ((gPs fk fc fv j (q.1, q.2) rn).2) fl (gSh fl (j + 1) rn ((gPs fk fc fv j (q.1, q.2) rn).1)) fv (nI rn) (nI cn) sc) := hD
      refine lv_iinc (v := nI (j + 1)) (lv' := [(1, .int (nI (j + 1))), (0, .ref h)]) hx hb dX0_scan_49 hl (k := 0) rfl (nI_1 _) (by decide) rfl (fun ls hl => ?_)
      refine lv_goto (tgt := 29) hx hb dX0_scan_52 (by decide) ?_
      exact ih (j + 1) (gSh fl (j + 1) rn ((gPs fk fc fv j (q.1, q.2) rn).1), (gPs fk fc fv j (q.1, q.2) rn).2) (by omega) (by subst hq; rfl) H locs hP hD hS ls (lv_sub hl [0, 1] rfl)
  have loop1 : ∀ (n : Nat) (i : Nat), i + n = rn → ∀ (H : Heap) (locs : List Loc), va_P (dC, dI) vwCl (gw cA h qk qc qs ql qp qv fk fc fs fl (gP0 fp i) fv (nI rn) (nI cn) sc) H → va_D A (gw cA h qk qc qs ql qp qv fk fc fs fl (gP0 fp i) fv (nI rn) (nI cn) sc) → va_S A s.heap H locs → ∀ (ls : Array Slot), lv_has ls 2 [(1, .int (nI i)), (0, .ref h)] → W p l e (headSpec wsX0_scan ({ frames := 2, cells := 0, slots := 0, locals := 47 })).room s m ([.ref h] : List Value).toArray below meth c H locs 0 0 (MQ below (gQA (dC, dI) vwCl [(cA, .int), (cZ, .boolean)] ((gCo fk fc (gCols fk fc fl fv rn (gP0 fp rn, fs) cn).1 cn (fv, nI 0) rn).2) A (gw cA h qk qc qs ql qp qv fk fc ((gCols fk fc fl fv rn (gP0 fp rn, fs) cn).2) fl ((gCols fk fc fl fv rn (gP0 fp rn, fs) cn).1) ((gCo fk fc (gCols fk fc fl fv rn (gP0 fp rn, fs) cn).1 cn (fv, nI 0) rn).1) (nI rn) (nI cn) (nI 1))) ([.ref h] : List Value).toArray s 0 0 A) (F0 m 2 ls []) := by
    intro n
    induction n with
    | zero =>
      intro i hi H locs hP hD hS ls hl
      refine lv_iload_n hx hb dX0_scan_2 rfl (lv_at hl 0 rfl) ?_
      refine lv_aload_n hx hb dX0_scan_3 rfl (lv_at hl 1 rfl) ?_
      refine va_get (D := (dC, dI)) (ci := 0) (v := .int (nI rn)) (C := RX0) (T := TX0) (N := 9) hx hb hts hin0 hown hK hP 0 rfl rfl 6 (by decide) lk28 (fun _ h9 => h9) rfl dX0_scan_4 ?_
      refine gz_icmp_ge (tgt := 27) (za := ((i : Nat) : Int)) (zb := ((rn : Nat) : Int)) hx hb dX0_scan_7 (by decide) (nI_toInt (by omega)) (nI_toInt (by omega)) (fun c_1 => ?_) (fun c_1 => False.elim (by omega))
      refine lv_iconst (v := nI 0) hx hb dX0_scan_27 (by decide) ?_
      refine lv_istore_n (lv' := [(1, .int (nI 0)), (0, .ref h)]) hx hb dX0_scan_28 rfl hl (by decide) rfl (fun ls hl => ?_)
      exact loop2 cn 0 (gP0 fp rn, fs) (by omega) rfl H locs (by rw [show i = rn by omega] at hP; exact hP) (by rw [show i = rn by omega] at hD; exact hD) hS ls (lv_sub hl [0, 1] rfl)
    | succ n ih =>
      intro i hi H locs hP hD hS ls hl
      refine lv_iload_n hx hb dX0_scan_2 rfl (lv_at hl 0 rfl) ?_
      refine lv_aload_n hx hb dX0_scan_3 rfl (lv_at hl 1 rfl) ?_
      refine va_get (D := (dC, dI)) (ci := 0) (v := .int (nI rn)) (C := RX0) (T := TX0) (N := 9) hx hb hts hin0 hown hK hP 0 rfl rfl 6 (by decide) lk28 (fun _ h9 => h9) rfl dX0_scan_4 ?_
      refine gz_icmp_ge (tgt := 27) (za := ((i : Nat) : Int)) (zb := ((rn : Nat) : Int)) hx hb dX0_scan_7 (by decide) (nI_toInt (by omega)) (nI_toInt (by omega)) (fun c_1 => False.elim (by omega)) (fun c_1 => ?_)
      refine lv_aload_n hx hb dX0_scan_10 rfl (lv_at hl 1 rfl) ?_
      refine va_get (D := (dC, dI)) (ci := 0) (v := .ref qp) (C := RX0) (T := TX0) (N := 9) hx hb hts hin0 hown hK hP 0 rfl rfl 4 (by decide) lk22 (fun _ h9 => h9) rfl dX0_scan_11 ?_
      refine lv_iload_n hx hb dX0_scan_14 rfl (lv_at hl 0 rfl) ?_
      refine lv_iconst (v := nI 0) hx hb dX0_scan_15 (by decide) ?_
      refine gz_callR (W.runS (As := [.int (nI i), .int (nI 0)]) (rest := [.ref qp]) ⟨hx, hb, hml, hown, hts⟩ (cG_pointAt l i 0) (va_cwS 2 hts gX0_scan_X0_pointAt rfl rfl rfl (by decide +kernel) ⟨Nat.le_of_ble_eq_true rfl, Nat.le_of_ble_eq_true rfl⟩) preEq rfl rfl hl.1 rfl (lv_room (Nat.le_of_ble_eq_true rfl)) dX0_scan_16 ⟨Nat.le_of_ble_eq_true rfl, Nat.le_of_ble_eq_true rfl⟩) ?_
      refine lv_iconst (v := nI 1) hx hb dX0_scan_19 (by decide) ?_
      refine gz_iast (k := i * 13 + 0) hx hb hK hP hD hS 5 0 rfl rfl (by omega) (by omega) dX0_scan_20 (fun H locs hP hD hS => ?_)
      have hP : va_P (dC, dI) vwCl (gw cA h qk qc qs ql qp qv fk fc fs fl (upd (gP0 fp i) (i * 13 + 0) (nI 1)) fv (nI rn) (nI cn) sc) H := hP
      have hD : va_D A (gw cA h qk qc qs ql qp qv fk fc fs fl (upd (gP0 fp i) (i * 13 + 0) (nI 1)) fv (nI rn) (nI cn) sc) := hD
      refine lv_iinc (v := nI (i + 1)) (lv' := [(1, .int (nI (i + 1))), (0, .ref h)]) hx hb dX0_scan_21 hl (k := 0) rfl (nI_1 _) (by decide) rfl (fun ls hl => ?_)
      refine lv_goto (tgt := 2) hx hb dX0_scan_24 (by decide) ?_
      exact ih (i + 1) (by omega) H locs hP hD hS ls (lv_sub hl [0, 1] rfl)
  refine lv_iconst (v := nI 0) hx hb dX0_scan_0 (by decide) ?_
  refine lv_istore_n (lv' := [(1, .int (nI 0)), (0, .ref h)]) hx hb dX0_scan_1 rfl hl (by decide) rfl (fun ls hl => ?_)
  exact loop1 rn 0 (by omega) H locs hP hD hS ls (lv_sub hl [0, 1] rfl)
end
section
set_option maxHeartbeats 4000000 in
set_option maxRecDepth 100000 in
theorem cG_init (l : Launch) (dC : Nat → ClassId) (dI : Nat → Nat → Nat) (sz : Nat) (h : Nat)  : Met l yX0_init wsX0_init ({ frames := 1, cells := 6, slots := 784, locals := 12 }) (gPw (dC, dI) vwCl [] [.ref h] sz [(h, .inr (0, [.null, .null, .null, .null, .null, .null, .int 0, .int 0, .int 0]))]) (va_Qv (fun (_ : ClassId × Nat × Nat × Nat × Nat × Nat × Nat) => True) (fun u t => va_P (dC, dI) vwCl (gw u.1 h u.2.1 u.2.2.1 u.2.2.2.1 u.2.2.2.2.1 u.2.2.2.2.2.1 u.2.2.2.2.2.2 (fun _ => nI 0) (fun _ => nI 0) (fun _ => nI 0) (fun _ => nI 0) (fun _ => nI 0) (fun _ => nI 0) (nI 1) (nI 1) (nI 0)) t.heap ∧ va_K (dC, dI) vwCl [(u.1, .int)] t ∧ va_D (va_A [(h, .inr (0, [.null, .null, .null, .null, .null, .null, .int 0, .int 0, .int 0]))] sz) (gw u.1 h u.2.1 u.2.2.1 u.2.2.2.1 u.2.2.2.2.1 u.2.2.2.2.2.1 u.2.2.2.2.2.2 (fun _ => nI 0) (fun _ => nI 0) (fun _ => nI 0) (fun _ => nI 0) (fun _ => nI 0) (fun _ => nI 0) (nI 1) (nI 1) (nI 0))) (va_A [(h, .inr (0, [.null, .null, .null, .null, .null, .null, .int 0, .int 0, .int 0]))] sz)) 6 784 (va_A [(h, .inr (0, [.null, .null, .null, .null, .null, .null, .int 0, .int 0, .int 0]))] sz) := by
  refine Met.ofW (cc := cX0_init) (maxL := 1) (ret := none) (by decide) rfl ?_
  intro p e s m args below meth c s₁ B hml hv
  obtain ⟨rfl, hsz, hP, hK, hD0⟩ := hv
  have hx := B.exec
  have hb := B.bytes
  have hr := B.returns
  have hts := atoms_spec (ws := wsX0_init) B.pre
  have hown : s.vm.findClass RX0 = some m.cls := findClass_of_methodNamed B.named
  have hlocks := B.notSynchronized
  have hin : meth.name = "<init>" := (name_of_methodNamed B.named B.method).1
  subst hsz
  have hD := hD0.self (sz := s.heap.size)
  generalize hAe : va_A [(h, .inr (0, [.null, .null, .null, .null, .null, .null, .int 0, .int 0, .int 0]))] s.heap.size = A at hD ⊢
  have hA : ∀ q : Nat, s.heap.size ≤ q → A q := fun q h => by rw [← hAe]; exact Or.inr h
  have hS : va_S A s.heap s.heap [] := va_S.rf
  have hin0 : ∀ w ∈ u_ws RX0 TX0 9, w ∈ wsX0_init := by decide +kernel
  have lk9 := hts (.fieldLink RX0 9 "LadderGrid" "kinds" "[I") (by decide +kernel)
  have lk13 := hts (.fieldLink RX0 13 "LadderGrid" "cellVariables" "[I") (by decide +kernel)
  have lk16 := hts (.fieldLink RX0 16 "LadderGrid" "seen" "[I") (by decide +kernel)
  have lk19 := hts (.fieldLink RX0 19 "LadderGrid" "links" "[I") (by decide +kernel)
  have lk22 := hts (.fieldLink RX0 22 "LadderGrid" "powered" "[I") (by decide +kernel)
  have lk25 := hts (.fieldLink RX0 25 "LadderGrid" "values" "[I") (by decide +kernel)
  have lk28 := hts (.fieldLink RX0 28 "LadderGrid" "rows" "I") (by decide +kernel)
  have lk32 := hts (.fieldLink RX0 32 "LadderGrid" "columns" "I") (by decide +kernel)
  have lk35 := hts (.fieldLink RX0 35 "LadderGrid" "scanned" "Z") (by decide +kernel)
  have hl := lv_entry ([.ref h]) (n := 1) (Nat.le_of_ble_eq_true rfl)
  rw [lg_entry_eq]
  generalize (lg_sl ([.ref h]) ++ List.replicate (1 - (lg_sl ([.ref h])).length) Slot.unset).toArray = ls at hl ⊢
  have hl : lv_has ls 1 [(0, .ref h)] := hl
  suffices key : ∀ (H : Heap) (locs : List Loc), va_P (dC, dI) vwCl [(h, .inr (0, [.null, .null, .null, .null, .null, .null, .int 0, .int 0, .int 0]))] H → va_D A [(h, .inr (0, [.null, .null, .null, .null, .null, .null, .int 0, .int 0, .int 0]))] → va_S A s.heap H locs → W p l e (headSpec wsX0_init ({ frames := 1, cells := 6, slots := 784, locals := 12 })).room s m ([.ref h] : List Value).toArray below meth c H locs 0 0 (MQ below (va_Qv (fun (_ : ClassId × Nat × Nat × Nat × Nat × Nat × Nat) => True) (fun u t => va_P (dC, dI) vwCl (gw u.1 h u.2.1 u.2.2.1 u.2.2.2.1 u.2.2.2.2.1 u.2.2.2.2.2.1 u.2.2.2.2.2.2 (fun _ => nI 0) (fun _ => nI 0) (fun _ => nI 0) (fun _ => nI 0) (fun _ => nI 0) (fun _ => nI 0) (nI 1) (nI 1) (nI 0)) t.heap ∧ va_K (dC, dI) vwCl [(u.1, .int)] t ∧ va_D A (gw u.1 h u.2.1 u.2.2.1 u.2.2.2.1 u.2.2.2.2.1 u.2.2.2.2.2.1 u.2.2.2.2.2.2 (fun _ => nI 0) (fun _ => nI 0) (fun _ => nI 0) (fun _ => nI 0) (fun _ => nI 0) (fun _ => nI 0) (nI 1) (nI 1) (nI 0))) A) ([.ref h] : List Value).toArray s 6 784 A) (F0 m 0 ls []) from key s.heap [] hP hD hS
  clear hP hD hS
  intro H locs hP hD hS
  refine lv_aload_n hx hb dX0_init_0 rfl (lv_at hl 0 rfl) ?_
  refine W.objInit hx hb hown (hts (.methodLink RX0 3 objectInit) (by decide +kernel)) (hts (.instanceMethod objectInit) (by decide +kernel)) (hts _ (List.mem_cons_of_mem _ (List.mem_append_left _ (List.mem_of_getElem? (i := 2) rfl)))) rfl (by rw [hml]; exact hl.1) rfl dX0_init_1 (Nat.le_of_ble_eq_true rfl) (Nat.le_of_ble_eq_true rfl) ?_
  refine W.eq (g2 := F0 m 4 ls []) rfl ?_
  refine lv_aload_n hx hb dX0_init_4 rfl (lv_at hl 0 rfl) ?_
  refine lv_sipush (v := nI 144) hx hb dX0_init_5 (by decide) ?_
  refine va_newa (atype := .int) (ty := .int) (a0 := (144, .inl (fun _ => nI 0))) (N' := 144) hx hb (hts (.arrayClass .int) (by decide +kernel)) rfl hK hP hD hS hA (fun _ => rfl) (by decide) (nI_clamp (by omega)) (by decide) (Nat.le_of_ble_eq_true rfl) (Nat.le_of_ble_eq_true rfl) dX0_init_8 (fun qk c1 H hK hP hD hS => ?_)
  have hP : va_P (dC, dI) vwCl [(h, .inr (0, [.null, .null, .null, .null, .null, .null, .int 0, .int 0, .int 0])), (qk, .inl (c1, 144, .inl (fun _ => nI 0)))] H := hP
  have hD : va_D A [(h, .inr (0, [.null, .null, .null, .null, .null, .null, .int 0, .int 0, .int 0])), (qk, .inl (c1, 144, .inl (fun _ => nI 0)))] := hD
  refine va_putF (D := (dC, dI)) (ci := 0) (v := .ref qk) (ty := (.array .int)) (C := RX0) (T := TX0) (N := 9) hx hb hts hin0 tyX0 tyX0_ok nmX0 hown hK hP hD hS 0 rfl rfl 0 (by decide) lk9 (fun _ h9 => h9) rfl hin rfl (by decide +kernel) rfl rfl (Nat.le_of_ble_eq_true rfl) dX0_init_10 (fun H locs hP hD hS => ?_)
  have hP : va_P (dC, dI) vwCl [(h, .inr (0, [.ref qk, .null, .null, .null, .null, .null, .int 0, .int 0, .int 0])), (qk, .inl (c1, 144, .inl (fun _ => nI 0)))] H := hP
  have hD : va_D A [(h, .inr (0, [.ref qk, .null, .null, .null, .null, .null, .int 0, .int 0, .int 0])), (qk, .inl (c1, 144, .inl (fun _ => nI 0)))] := hD
  refine lv_aload_n hx hb dX0_init_13 rfl (lv_at hl 0 rfl) ?_
  refine lv_sipush (v := nI 144) hx hb dX0_init_14 (by decide) ?_
  refine va_newa (atype := .int) (ty := .int) (a0 := (144, .inl (fun _ => nI 0))) (N' := 144) hx hb (hts (.arrayClass .int) (by decide +kernel)) rfl hK hP hD hS hA (fun _ => rfl) (by decide) (nI_clamp (by omega)) (by decide) (Nat.le_of_ble_eq_true rfl) (Nat.le_of_ble_eq_true rfl) dX0_init_17 (fun qc c2 H hK hP hD hS => ?_)
  have hP : va_P (dC, dI) vwCl [(h, .inr (0, [.ref qk, .null, .null, .null, .null, .null, .int 0, .int 0, .int 0])), (qk, .inl (c1, 144, .inl (fun _ => nI 0))), (qc, .inl (c2, 144, .inl (fun _ => nI 0)))] H := hP
  have hD : va_D A [(h, .inr (0, [.ref qk, .null, .null, .null, .null, .null, .int 0, .int 0, .int 0])), (qk, .inl (c1, 144, .inl (fun _ => nI 0))), (qc, .inl (c2, 144, .inl (fun _ => nI 0)))] := hD
  refine va_putF (D := (dC, dI)) (ci := 0) (v := .ref qc) (ty := (.array .int)) (C := RX0) (T := TX0) (N := 9) hx hb hts hin0 tyX0 tyX0_ok nmX0 hown hK hP hD hS 0 rfl rfl 1 (by decide) lk13 (fun _ h9 => h9) rfl hin rfl (by decide +kernel) rfl rfl (Nat.le_of_ble_eq_true rfl) dX0_init_19 (fun H locs hP hD hS => ?_)
  have hP : va_P (dC, dI) vwCl [(h, .inr (0, [.ref qk, .ref qc, .null, .null, .null, .null, .int 0, .int 0, .int 0])), (qk, .inl (c1, 144, .inl (fun _ => nI 0))), (qc, .inl (c2, 144, .inl (fun _ => nI 0)))] H := hP
  have hD : va_D A [(h, .inr (0, [.ref qk, .ref qc, .null, .null, .null, .null, .int 0, .int 0, .int 0])), (qk, .inl (c1, 144, .inl (fun _ => nI 0))), (qc, .inl (c2, 144, .inl (fun _ => nI 0)))] := hD
  refine lv_aload_n hx hb dX0_init_22 rfl (lv_at hl 0 rfl) ?_
  refine lv_sipush (v := nI 144) hx hb dX0_init_23 (by decide) ?_
  refine va_newa (atype := .int) (ty := .int) (a0 := (144, .inl (fun _ => nI 0))) (N' := 144) hx hb (hts (.arrayClass .int) (by decide +kernel)) rfl hK hP hD hS hA (fun _ => rfl) (by decide) (nI_clamp (by omega)) (by decide) (Nat.le_of_ble_eq_true rfl) (Nat.le_of_ble_eq_true rfl) dX0_init_26 (fun qs c3 H hK hP hD hS => ?_)
  have hP : va_P (dC, dI) vwCl [(h, .inr (0, [.ref qk, .ref qc, .null, .null, .null, .null, .int 0, .int 0, .int 0])), (qk, .inl (c1, 144, .inl (fun _ => nI 0))), (qc, .inl (c2, 144, .inl (fun _ => nI 0))), (qs, .inl (c3, 144, .inl (fun _ => nI 0)))] H := hP
  have hD : va_D A [(h, .inr (0, [.ref qk, .ref qc, .null, .null, .null, .null, .int 0, .int 0, .int 0])), (qk, .inl (c1, 144, .inl (fun _ => nI 0))), (qc, .inl (c2, 144, .inl (fun _ => nI 0))), (qs, .inl (c3, 144, .inl (fun _ => nI 0)))] := hD
  refine va_putF (D := (dC, dI)) (ci := 0) (v := .ref qs) (ty := (.array .int)) (C := RX0) (T := TX0) (N := 9) hx hb hts hin0 tyX0 tyX0_ok nmX0 hown hK hP hD hS 0 rfl rfl 2 (by decide) lk16 (fun _ h9 => h9) rfl hin rfl (by decide +kernel) rfl rfl (Nat.le_of_ble_eq_true rfl) dX0_init_28 (fun H locs hP hD hS => ?_)
  have hP : va_P (dC, dI) vwCl [(h, .inr (0, [.ref qk, .ref qc, .ref qs, .null, .null, .null, .int 0, .int 0, .int 0])), (qk, .inl (c1, 144, .inl (fun _ => nI 0))), (qc, .inl (c2, 144, .inl (fun _ => nI 0))), (qs, .inl (c3, 144, .inl (fun _ => nI 0)))] H := hP
  have hD : va_D A [(h, .inr (0, [.ref qk, .ref qc, .ref qs, .null, .null, .null, .int 0, .int 0, .int 0])), (qk, .inl (c1, 144, .inl (fun _ => nI 0))), (qc, .inl (c2, 144, .inl (fun _ => nI 0))), (qs, .inl (c3, 144, .inl (fun _ => nI 0)))] := hD
  refine lv_aload_n hx hb dX0_init_31 rfl (lv_at hl 0 rfl) ?_
  refine lv_sipush (v := nI 156) hx hb dX0_init_32 (by decide) ?_
  refine va_newa (atype := .int) (ty := .int) (a0 := (156, .inl (fun _ => nI 0))) (N' := 156) hx hb (hts (.arrayClass .int) (by decide +kernel)) rfl hK hP hD hS hA (fun _ => rfl) (by decide) (nI_clamp (by omega)) (by decide) (Nat.le_of_ble_eq_true rfl) (Nat.le_of_ble_eq_true rfl) dX0_init_35 (fun ql c4 H hK hP hD hS => ?_)
  have hP : va_P (dC, dI) vwCl [(h, .inr (0, [.ref qk, .ref qc, .ref qs, .null, .null, .null, .int 0, .int 0, .int 0])), (qk, .inl (c1, 144, .inl (fun _ => nI 0))), (qc, .inl (c2, 144, .inl (fun _ => nI 0))), (qs, .inl (c3, 144, .inl (fun _ => nI 0))), (ql, .inl (c4, 156, .inl (fun _ => nI 0)))] H := hP
  have hD : va_D A [(h, .inr (0, [.ref qk, .ref qc, .ref qs, .null, .null, .null, .int 0, .int 0, .int 0])), (qk, .inl (c1, 144, .inl (fun _ => nI 0))), (qc, .inl (c2, 144, .inl (fun _ => nI 0))), (qs, .inl (c3, 144, .inl (fun _ => nI 0))), (ql, .inl (c4, 156, .inl (fun _ => nI 0)))] := hD
  refine va_putF (D := (dC, dI)) (ci := 0) (v := .ref ql) (ty := (.array .int)) (C := RX0) (T := TX0) (N := 9) hx hb hts hin0 tyX0 tyX0_ok nmX0 hown hK hP hD hS 0 rfl rfl 3 (by decide) lk19 (fun _ h9 => h9) rfl hin rfl (by decide +kernel) rfl rfl (Nat.le_of_ble_eq_true rfl) dX0_init_37 (fun H locs hP hD hS => ?_)
  have hP : va_P (dC, dI) vwCl [(h, .inr (0, [.ref qk, .ref qc, .ref qs, .ref ql, .null, .null, .int 0, .int 0, .int 0])), (qk, .inl (c1, 144, .inl (fun _ => nI 0))), (qc, .inl (c2, 144, .inl (fun _ => nI 0))), (qs, .inl (c3, 144, .inl (fun _ => nI 0))), (ql, .inl (c4, 156, .inl (fun _ => nI 0)))] H := hP
  have hD : va_D A [(h, .inr (0, [.ref qk, .ref qc, .ref qs, .ref ql, .null, .null, .int 0, .int 0, .int 0])), (qk, .inl (c1, 144, .inl (fun _ => nI 0))), (qc, .inl (c2, 144, .inl (fun _ => nI 0))), (qs, .inl (c3, 144, .inl (fun _ => nI 0))), (ql, .inl (c4, 156, .inl (fun _ => nI 0)))] := hD
  refine lv_aload_n hx hb dX0_init_40 rfl (lv_at hl 0 rfl) ?_
  refine lv_sipush (v := nI 156) hx hb dX0_init_41 (by decide) ?_
  refine va_newa (atype := .int) (ty := .int) (a0 := (156, .inl (fun _ => nI 0))) (N' := 156) hx hb (hts (.arrayClass .int) (by decide +kernel)) rfl hK hP hD hS hA (fun _ => rfl) (by decide) (nI_clamp (by omega)) (by decide) (Nat.le_of_ble_eq_true rfl) (Nat.le_of_ble_eq_true rfl) dX0_init_44 (fun qp c5 H hK hP hD hS => ?_)
  have hP : va_P (dC, dI) vwCl [(h, .inr (0, [.ref qk, .ref qc, .ref qs, .ref ql, .null, .null, .int 0, .int 0, .int 0])), (qk, .inl (c1, 144, .inl (fun _ => nI 0))), (qc, .inl (c2, 144, .inl (fun _ => nI 0))), (qs, .inl (c3, 144, .inl (fun _ => nI 0))), (ql, .inl (c4, 156, .inl (fun _ => nI 0))), (qp, .inl (c5, 156, .inl (fun _ => nI 0)))] H := hP
  have hD : va_D A [(h, .inr (0, [.ref qk, .ref qc, .ref qs, .ref ql, .null, .null, .int 0, .int 0, .int 0])), (qk, .inl (c1, 144, .inl (fun _ => nI 0))), (qc, .inl (c2, 144, .inl (fun _ => nI 0))), (qs, .inl (c3, 144, .inl (fun _ => nI 0))), (ql, .inl (c4, 156, .inl (fun _ => nI 0))), (qp, .inl (c5, 156, .inl (fun _ => nI 0)))] := hD
  refine va_putF (D := (dC, dI)) (ci := 0) (v := .ref qp) (ty := (.array .int)) (C := RX0) (T := TX0) (N := 9) hx hb hts hin0 tyX0 tyX0_ok nmX0 hown hK hP hD hS 0 rfl rfl 4 (by decide) lk22 (fun _ h9 => h9) rfl hin rfl (by decide +kernel) rfl rfl (Nat.le_of_ble_eq_true rfl) dX0_init_46 (fun H locs hP hD hS => ?_)
  have hP : va_P (dC, dI) vwCl [(h, .inr (0, [.ref qk, .ref qc, .ref qs, .ref ql, .ref qp, .null, .int 0, .int 0, .int 0])), (qk, .inl (c1, 144, .inl (fun _ => nI 0))), (qc, .inl (c2, 144, .inl (fun _ => nI 0))), (qs, .inl (c3, 144, .inl (fun _ => nI 0))), (ql, .inl (c4, 156, .inl (fun _ => nI 0))), (qp, .inl (c5, 156, .inl (fun _ => nI 0)))] H := hP
  have hD : va_D A [(h, .inr (0, [.ref qk, .ref qc, .ref qs, .ref ql, .ref qp, .null, .int 0, .int 0, .int 0])), (qk, .inl (c1, 144, .inl (fun _ => nI 0))), (qc, .inl (c2, 144, .inl (fun _ => nI 0))), (qs, .inl (c3, 144, .inl (fun _ => nI 0))), (ql, .inl (c4, 156, .inl (fun _ => nI 0))), (qp, .inl (c5, 156, .inl (fun _ => nI 0)))] := hD
  refine lv_aload_n hx hb dX0_init_49 rfl (lv_at hl 0 rfl) ?_
  refine lv_bipush (v := nI 40) hx hb dX0_init_50 (by decide) ?_
  refine va_newa (atype := .int) (ty := .int) (a0 := (40, .inl (fun _ => nI 0))) (N' := 40) hx hb (hts (.arrayClass .int) (by decide +kernel)) rfl hK hP hD hS hA (fun _ => rfl) (by decide) (nI_clamp (by omega)) (by decide) (Nat.le_of_ble_eq_true rfl) (Nat.le_of_ble_eq_true rfl) dX0_init_52 (fun qv c6 H hK hP hD hS => ?_)
  have hP : va_P (dC, dI) vwCl [(h, .inr (0, [.ref qk, .ref qc, .ref qs, .ref ql, .ref qp, .null, .int 0, .int 0, .int 0])), (qk, .inl (c1, 144, .inl (fun _ => nI 0))), (qc, .inl (c2, 144, .inl (fun _ => nI 0))), (qs, .inl (c3, 144, .inl (fun _ => nI 0))), (ql, .inl (c4, 156, .inl (fun _ => nI 0))), (qp, .inl (c5, 156, .inl (fun _ => nI 0))), (qv, .inl (c6, 40, .inl (fun _ => nI 0)))] H := hP
  have hD : va_D A [(h, .inr (0, [.ref qk, .ref qc, .ref qs, .ref ql, .ref qp, .null, .int 0, .int 0, .int 0])), (qk, .inl (c1, 144, .inl (fun _ => nI 0))), (qc, .inl (c2, 144, .inl (fun _ => nI 0))), (qs, .inl (c3, 144, .inl (fun _ => nI 0))), (ql, .inl (c4, 156, .inl (fun _ => nI 0))), (qp, .inl (c5, 156, .inl (fun _ => nI 0))), (qv, .inl (c6, 40, .inl (fun _ => nI 0)))] := hD
  refine va_putF (D := (dC, dI)) (ci := 0) (v := .ref qv) (ty := (.array .int)) (C := RX0) (T := TX0) (N := 9) hx hb hts hin0 tyX0 tyX0_ok nmX0 hown hK hP hD hS 0 rfl rfl 5 (by decide) lk25 (fun _ h9 => h9) rfl hin rfl (by decide +kernel) rfl rfl (Nat.le_of_ble_eq_true rfl) dX0_init_54 (fun H locs hP hD hS => ?_)
  have hP : va_P (dC, dI) vwCl [(h, .inr (0, [.ref qk, .ref qc, .ref qs, .ref ql, .ref qp, .ref qv, .int 0, .int 0, .int 0])), (qk, .inl (c1, 144, .inl (fun _ => nI 0))), (qc, .inl (c2, 144, .inl (fun _ => nI 0))), (qs, .inl (c3, 144, .inl (fun _ => nI 0))), (ql, .inl (c4, 156, .inl (fun _ => nI 0))), (qp, .inl (c5, 156, .inl (fun _ => nI 0))), (qv, .inl (c6, 40, .inl (fun _ => nI 0)))] H := hP
  have hD : va_D A [(h, .inr (0, [.ref qk, .ref qc, .ref qs, .ref ql, .ref qp, .ref qv, .int 0, .int 0, .int 0])), (qk, .inl (c1, 144, .inl (fun _ => nI 0))), (qc, .inl (c2, 144, .inl (fun _ => nI 0))), (qs, .inl (c3, 144, .inl (fun _ => nI 0))), (ql, .inl (c4, 156, .inl (fun _ => nI 0))), (qp, .inl (c5, 156, .inl (fun _ => nI 0))), (qv, .inl (c6, 40, .inl (fun _ => nI 0)))] := hD
  refine lv_aload_n hx hb dX0_init_57 rfl (lv_at hl 0 rfl) ?_
  refine lv_iconst (v := nI 1) hx hb dX0_init_58 (by decide) ?_
  refine va_put (D := (dC, dI)) (ci := 0) (v := .int (nI 1)) (ty := .int) (C := RX0) (T := TX0) (N := 9) hx hb hts hin0 tyX0 tyX0_ok nmX0 hown hK hP hD hS 0 rfl rfl 6 (by decide) lk28 (fun _ h9 => h9) rfl (by decide +kernel) rfl rfl (Nat.le_of_ble_eq_true rfl) dX0_init_59 (fun H locs hP hD hS => ?_)
  have hP : va_P (dC, dI) vwCl [(h, .inr (0, [.ref qk, .ref qc, .ref qs, .ref ql, .ref qp, .ref qv, .int (nI 1), .int 0, .int 0])), (qk, .inl (c1, 144, .inl (fun _ => nI 0))), (qc, .inl (c2, 144, .inl (fun _ => nI 0))), (qs, .inl (c3, 144, .inl (fun _ => nI 0))), (ql, .inl (c4, 156, .inl (fun _ => nI 0))), (qp, .inl (c5, 156, .inl (fun _ => nI 0))), (qv, .inl (c6, 40, .inl (fun _ => nI 0)))] H := hP
  have hD : va_D A [(h, .inr (0, [.ref qk, .ref qc, .ref qs, .ref ql, .ref qp, .ref qv, .int (nI 1), .int 0, .int 0])), (qk, .inl (c1, 144, .inl (fun _ => nI 0))), (qc, .inl (c2, 144, .inl (fun _ => nI 0))), (qs, .inl (c3, 144, .inl (fun _ => nI 0))), (ql, .inl (c4, 156, .inl (fun _ => nI 0))), (qp, .inl (c5, 156, .inl (fun _ => nI 0))), (qv, .inl (c6, 40, .inl (fun _ => nI 0)))] := hD
  refine lv_aload_n hx hb dX0_init_62 rfl (lv_at hl 0 rfl) ?_
  refine lv_iconst (v := nI 1) hx hb dX0_init_63 (by decide) ?_
  refine va_put (D := (dC, dI)) (ci := 0) (v := .int (nI 1)) (ty := .int) (C := RX0) (T := TX0) (N := 9) hx hb hts hin0 tyX0 tyX0_ok nmX0 hown hK hP hD hS 0 rfl rfl 7 (by decide) lk32 (fun _ h9 => h9) rfl (by decide +kernel) rfl rfl (Nat.le_of_ble_eq_true rfl) dX0_init_64 (fun H locs hP hD hS => ?_)
  have hP : va_P (dC, dI) vwCl [(h, .inr (0, [.ref qk, .ref qc, .ref qs, .ref ql, .ref qp, .ref qv, .int (nI 1), .int (nI 1), .int 0])), (qk, .inl (c1, 144, .inl (fun _ => nI 0))), (qc, .inl (c2, 144, .inl (fun _ => nI 0))), (qs, .inl (c3, 144, .inl (fun _ => nI 0))), (ql, .inl (c4, 156, .inl (fun _ => nI 0))), (qp, .inl (c5, 156, .inl (fun _ => nI 0))), (qv, .inl (c6, 40, .inl (fun _ => nI 0)))] H := hP
  have hD : va_D A [(h, .inr (0, [.ref qk, .ref qc, .ref qs, .ref ql, .ref qp, .ref qv, .int (nI 1), .int (nI 1), .int 0])), (qk, .inl (c1, 144, .inl (fun _ => nI 0))), (qc, .inl (c2, 144, .inl (fun _ => nI 0))), (qs, .inl (c3, 144, .inl (fun _ => nI 0))), (ql, .inl (c4, 156, .inl (fun _ => nI 0))), (qp, .inl (c5, 156, .inl (fun _ => nI 0))), (qv, .inl (c6, 40, .inl (fun _ => nI 0)))] := hD
  refine lv_aload_n hx hb dX0_init_67 rfl (lv_at hl 0 rfl) ?_
  refine lv_iconst (v := nI 0) hx hb dX0_init_68 (by decide) ?_
  refine va_put (D := (dC, dI)) (ci := 0) (v := .int (nI 0)) (ty := .boolean) (C := RX0) (T := TX0) (N := 9) hx hb hts hin0 tyX0 tyX0_ok nmX0 hown hK hP hD hS 0 rfl rfl 8 (by decide) lk35 (fun _ h9 => h9) rfl (by decide +kernel) rfl rfl (Nat.le_of_ble_eq_true rfl) dX0_init_69 (fun H locs hP hD hS => ?_)
  have hP : va_P (dC, dI) vwCl [(h, .inr (0, [.ref qk, .ref qc, .ref qs, .ref ql, .ref qp, .ref qv, .int (nI 1), .int (nI 1), .int (nI 0)])), (qk, .inl (c1, 144, .inl (fun _ => nI 0))), (qc, .inl (c2, 144, .inl (fun _ => nI 0))), (qs, .inl (c3, 144, .inl (fun _ => nI 0))), (ql, .inl (c4, 156, .inl (fun _ => nI 0))), (qp, .inl (c5, 156, .inl (fun _ => nI 0))), (qv, .inl (c6, 40, .inl (fun _ => nI 0)))] H := hP
  have hD : va_D A [(h, .inr (0, [.ref qk, .ref qc, .ref qs, .ref ql, .ref qp, .ref qv, .int (nI 1), .int (nI 1), .int (nI 0)])), (qk, .inl (c1, 144, .inl (fun _ => nI 0))), (qc, .inl (c2, 144, .inl (fun _ => nI 0))), (qs, .inl (c3, 144, .inl (fun _ => nI 0))), (ql, .inl (c4, 156, .inl (fun _ => nI 0))), (qp, .inl (c5, 156, .inl (fun _ => nI 0))), (qv, .inl (c6, 40, .inl (fun _ => nI 0)))] := hD
  have e2 : c1 = c2 := by
    have h1 : s.vm.findClass ("[" ++ FieldType.int.toString) = some c1 := (hK.2 0 (c1, .int) rfl).2
    have h2 : s.vm.findClass ("[" ++ FieldType.int.toString) = some c2 := (hK.2 1 (c2, .int) rfl).2
    exact Option.some.inj (h1.symm.trans h2)
  have e3 : c1 = c3 := by
    have h1 : s.vm.findClass ("[" ++ FieldType.int.toString) = some c1 := (hK.2 0 (c1, .int) rfl).2
    have h2 : s.vm.findClass ("[" ++ FieldType.int.toString) = some c3 := (hK.2 2 (c3, .int) rfl).2
    exact Option.some.inj (h1.symm.trans h2)
  have e4 : c1 = c4 := by
    have h1 : s.vm.findClass ("[" ++ FieldType.int.toString) = some c1 := (hK.2 0 (c1, .int) rfl).2
    have h2 : s.vm.findClass ("[" ++ FieldType.int.toString) = some c4 := (hK.2 3 (c4, .int) rfl).2
    exact Option.some.inj (h1.symm.trans h2)
  have e5 : c1 = c5 := by
    have h1 : s.vm.findClass ("[" ++ FieldType.int.toString) = some c1 := (hK.2 0 (c1, .int) rfl).2
    have h2 : s.vm.findClass ("[" ++ FieldType.int.toString) = some c5 := (hK.2 4 (c5, .int) rfl).2
    exact Option.some.inj (h1.symm.trans h2)
  have e6 : c1 = c6 := by
    have h1 : s.vm.findClass ("[" ++ FieldType.int.toString) = some c1 := (hK.2 0 (c1, .int) rfl).2
    have h2 : s.vm.findClass ("[" ++ FieldType.int.toString) = some c6 := (hK.2 5 (c6, .int) rfl).2
    exact Option.some.inj (h1.symm.trans h2)
  subst e2 e3 e4 e5 e6
  have hK9 := hK.sub (tys' := [(c1, .int)]) [0] rfl
  refine W.widen (k := 6) (n := 784) (by omega) (by omega) ?_
  exact W.vret hx hb hr (fun t ht hW => ⟨⟨(c1, qk, qc, qs, ql, qp, qv), rfl, trivial, by rw [ht]; exact hP, va_K.moved hW.alike hK9, hD⟩, hS.F ht⟩) hS.2.2 dX0_init_72
end
section
/-! what stays true of the functions: truth values stay 0 or 1; a line without links; the ends of groups -/
def g01 (n : Nat) (f : Nat → Int32) : Prop := ∀ k, k < n → f k = nI 0 ∨ f k = nI 1
theorem g01_upd {n : Nat} {f : Nat → Int32} {k : Nat} {v : Int32} (h : g01 n f) (hv : v = nI 0 ∨ v = nI 1) : g01 n (upd f k v) := by
  intro j hj
  by_cases e : j = k
  · subst e; rw [pk_us]; exact hv
  · rw [pk_un e]; exact h j hj
theorem gDn1_01 {n : Nat} {fl f : Nat → Int32} {ln i : Nat} (h : g01 n f) : g01 n (gDn1 fl ln i f) := by
  unfold gDn1
  repeat' split
  all_goals first | exact g01_upd h (Or.inr rfl) | exact h
theorem gDn_01 {n : Nat} {fl f : Nat → Int32} {ln : Nat} (h : g01 n f) : ∀ i, g01 n (gDn fl ln f i) := by
  intro i
  induction i with
  | zero => exact h
  | succ i ih => exact gDn1_01 ih
theorem gUp1_01 {n : Nat} {fl f : Nat → Int32} {ln i : Nat} (h : g01 n f) : g01 n (gUp1 fl ln i f) := by
  unfold gUp1
  repeat' split
  all_goals first | exact g01_upd h (Or.inr rfl) | exact h
theorem gUp_01 {n : Nat} {fl : Nat → Int32} {ln : Nat} : ∀ (i : Nat) (f : Nat → Int32), g01 n f → g01 n (gUp fl ln i f) := by
  intro i
  induction i with
  | zero => intro f h; exact h
  | succ i ih => intro f h; exact ih _ (gUp1_01 h)
theorem gSh_01 {n : Nat} {fl f : Nat → Int32} {ln rn : Nat} (h : g01 n f) : g01 n (gSh fl ln rn f) := gUp_01 _ _ (gDn_01 h _)
theorem gPs1_01 {n : Nat} {fk fc fv : Nat → Int32} {col i : Nat} {q : (Nat → Int32) × (Nat → Int32)} (h : g01 n q.1) : g01 n (gPs1 fk fc fv col i q).1 := by
  refine g01_upd h ?_
  split
  · exact gLets_01 _ _ _
  · exact Or.inl rfl
theorem gPs_01 {n : Nat} {fk fc fv : Nat → Int32} {col : Nat} {q : (Nat → Int32) × (Nat → Int32)} (h : g01 n q.1) : ∀ i, g01 n (gPs fk fc fv col q i).1 := by
  intro i
  induction i with
  | zero => exact h
  | succ i ih => exact gPs1_01 ih
theorem gCols_01 {n : Nat} {fk fc fl fv : Nat → Int32} {rn : Nat} {q : (Nat → Int32) × (Nat → Int32)} (h : g01 n q.1) : ∀ j, g01 n (gCols fk fc fl fv rn q j).1 := by
  intro j
  induction j with
  | zero => exact h
  | succ j ih => exact gSh_01 (gPs_01 ih rn)
theorem gP0_01 {n : Nat} {f : Nat → Int32} (h : g01 n f) : ∀ i, g01 n (gP0 f i) := by
  intro i
  induction i with
  | zero => exact h
  | succ i ih => exact g01_upd ih (Or.inr rfl)
theorem gCoil_01 {k pw b : Int32} (hp : pw = nI 0 ∨ pw = nI 1) (hb : b = nI 0 ∨ b = nI 1) : gCoil k pw b = nI 0 ∨ gCoil k pw b = nI 1 := by
  unfold gCoil
  rcases hp with rfl | rfl
  · repeat' split
    all_goals first | exact Or.inl rfl | exact Or.inr rfl | exact hb | exact Or.inr (by decide)
  · repeat' split
    all_goals first | exact Or.inl rfl | exact Or.inr rfl | exact hb | exact Or.inl (by decide)
theorem gCo_01 {fk fc fp : Nat → Int32} {cn : Nat} {q : (Nat → Int32) × Int32} (hc : ∀ k, k < 144 → vp_in (fc k) 40) (hp : g01 156 fp) (hcn : 1 ≤ cn ∧ cn ≤ 12) (h : g01 40 q.1) : ∀ i, i ≤ 12 → g01 40 (gCo fk fc fp cn q i).1 := by
  intro i
  induction i with
  | zero => intro _; exact h
  | succ i ih =>
    intro hi
    have h1 := ih (by omega)
    show g01 40 (gCo1 fk fc fp cn i (gCo fk fc fp cn q i)).1
    unfold gCo1
    split
    · refine g01_upd h1 (gCoil_01 (hp _ (by omega)) ?_)
      obtain ⟨j, hj, ej⟩ := vp_in_of (hc (i * 12 + (cn - 1)) (by omega)) (by omega)
      rw [ej, nI_clamp (by omega)]
      exact h1 j hj
    · exact h1
/-- links join a row with the next one, at a line between columns -/
def gLk (fl : Nat → Int32) (rn cn : Nat) : Prop := ∀ r ln, r < 12 → ln < 13 → fl (r * 13 + ln) = nI 1 → r + 1 < rn ∧ 1 ≤ ln ∧ ln < cn
theorem gDn_none {fl f : Nat → Int32} {ln : Nat} : ∀ i, (∀ r, r < i → ¬ fl (r * 13 + ln) = nI 1) → gDn fl ln f i = f := by
  intro i
  induction i with
  | zero => intro _; rfl
  | succ i ih =>
    intro h
    show gDn1 fl ln i (gDn fl ln f i) = f
    unfold gDn1
    rw [if_neg (h i (by omega)), ih (fun r hr => h r (by omega))]
theorem gUp_none {fl : Nat → Int32} {ln : Nat} : ∀ (i : Nat) (f : Nat → Int32), (∀ r, r < i → ¬ fl (r * 13 + ln) = nI 1) → gUp fl ln i f = f := by
  intro i
  induction i with
  | zero => intro f _; rfl
  | succ i ih =>
    intro f h
    show gUp fl ln i (gUp1 fl ln i f) = f
    unfold gUp1
    rw [if_neg (h i (by omega)), ih f (fun r hr => h r (by omega))]
theorem gSh_none {fl f : Nat → Int32} {ln rn : Nat} (h : ∀ r, r < rn → ¬ fl (r * 13 + ln) = nI 1) : gSh fl ln rn f = f := by
  unfold gSh
  rw [gDn_none _ (fun r hr => h r (by omega)), gUp_none _ _ (fun r hr => h r (by omega))]
theorem gLs_last {fk fl : Nat → Int32} {ln : Nat} : ∀ i, (∀ r, r < i → fl (r * 13 + ln) = nI 0) → (gLs fk fl ln i).2 = 0 := by
  intro i
  induction i with
  | zero => intro _; rfl
  | succ i ih =>
    intro h
    have h1 := ih (fun r hr => h r (by omega))
    have h2 := h i (by omega)
    show (gLs1 (fk (i * 12 + (ln - 1))) (fl (i * 13 + ln)) (gLs fk fl ln i)).2 = 0
    unfold gLs1
    rw [if_pos h2]
    repeat' split
    all_goals first | exact h1 | rfl
/-- behind the last row no group is open -/
theorem gLs_end {fk fl : Nat → Int32} {ln rn cn : Nat} (hrn : 1 ≤ rn ∧ rn ≤ 12) (hln : 1 ≤ ln ∧ ln ≤ cn) (hcn : cn ≤ 12) (hlk : gLk fl rn cn) (h01 : g01 156 fl) (hco : ∀ r, r < 12 → 6 ≤ (fk (r * 12 + (ln - 1))).toInt → ln = cn) : (gLs fk fl ln rn).2 = 0 := by
  obtain ⟨k, rfl⟩ : ∃ k, rn = k + 1 := ⟨rn - 1, by omega⟩
  have hz : ∀ r, r < 12 → (fl (r * 13 + ln) = nI 1 → False) → fl (r * 13 + ln) = nI 0 := fun r hr h => (h01 _ (by omega)).resolve_right h
  by_cases hc : 6 ≤ (fk (k * 12 + (ln - 1))).toInt
  · have e := hco k (by omega) hc
    refine gLs_last _ (fun r hr => hz r (by omega) (fun q => ?_))
    have := hlk r ln (by omega) (by omega) q
    omega
  · show (gLs1 (fk (k * 12 + (ln - 1))) (fl (k * 13 + ln)) (gLs fk fl ln k)).2 = 0
    have h2 : fl (k * 13 + ln) = nI 0 := hz k (by omega) (fun q => by have := hlk k ln (by omega) (by omega) q; omega)
    unfold gLs1
    rw [if_neg hc, if_pos h2]
    split <;> rfl
theorem gGr_end {fl : Nat → Int32} {ln rn cn : Nat} (hrn : 1 ≤ rn ∧ rn ≤ 12) (hln : ln ≤ cn) (hcn : cn ≤ 12) (hlk : gLk fl rn cn) : gGr fl ln rn = gGr fl ln (rn - 1) := by
  obtain ⟨k, rfl⟩ : ∃ k, rn = k + 1 := ⟨rn - 1, by omega⟩
  show (if fl (k * 13 + ln) = nI 1 then gGr fl ln k + 1 else gGr fl ln k) = gGr fl ln k
  rw [if_neg (fun q => by have := hlk k ln (by omega) (by omega) q; omega)]
def gCopy (f g : Nat → Int32) : Nat → Nat → Int32
  | 0 => f
  | i + 1 => upd (gCopy f g i) i (g i)
theorem gCopy_in (f g : Nat → Int32) : ∀ i j, j < i → gCopy f g i j = g j := by
  intro i
  induction i with
  | zero => intro j h; exact absurd h (Nat.not_lt_zero j)
  | succ i ih =>
    intro j h
    show upd (gCopy f g i) i (g i) j = g j
    by_cases e : j = i
    · subst e; exact pk_us
    · rw [pk_un e]; exact ih j (by omega)
theorem gCoil_6 (p b : Int32) : gCoil (nI 6) p b = p := if_pos rfl
theorem gCoil_71 (b : Int32) : gCoil (nI 7) (nI 1) b = nI 0 := by unfold gCoil; rw [if_neg (by decide), if_pos rfl]; decide
theorem gCoil_70 (b : Int32) : gCoil (nI 7) (nI 0) b = nI 1 := by unfold gCoil; rw [if_neg (by decide), if_pos rfl]; decide
theorem gCoil_81 (b : Int32) : gCoil (nI 8) (nI 1) b = nI 1 := by unfold gCoil; rw [if_neg (by decide), if_neg (by decide), if_pos rfl, if_pos rfl]
theorem gCoil_80 (b : Int32) : gCoil (nI 8) (nI 0) b = b := by unfold gCoil; rw [if_neg (by decide), if_neg (by decide), if_pos rfl, if_neg (by decide)]
theorem gCoil_91 (b : Int32) : gCoil (nI 9) (nI 1) b = nI 0 := by unfold gCoil; rw [if_neg (by decide), if_neg (by decide), if_neg (by decide), if_pos rfl]
theorem gCoil_90 (b : Int32) : gCoil (nI 9) (nI 0) b = b := by unfold gCoil; rw [if_neg (by decide), if_neg (by decide), if_neg (by decide), if_neg (by decide)]
theorem gz_add0 (x : Int32) : x + nI 0 = x := Int32.add_zero x
end
section
set_option maxHeartbeats 4000000 in
set_option maxRecDepth 100000 in
theorem cM_isVariable (l : Launch) (x : Int32)  : Met l yX1_isVariable wsX1_isVariable ({ frames := 0, cells := 0, slots := 0, locals := 0 }) (fun vv _ => vv = ([.int x] : List Value).toArray) (QcRead (if 0 ≤ x.toInt ∧ x.toInt < 40 then nI 1 else nI 0)) 0 0 (fun _ => False) := by
  refine Met.ofW (cc := cX1_isVariable) (maxL := 1) (ret := (some .boolean)) (by decide) rfl ?_
  intro p e s m args below meth c s₁ B hml hv
  subst hv
  have hx := B.exec
  have hb := B.bytes
  have hr := B.returns
  have hts := atoms_spec (ws := wsX1_isVariable) B.pre
  have hown : s.vm.findClass RX1 = some m.cls := findClass_of_methodNamed B.named
  have hlocks := B.notSynchronized
  have hl := lv_entry ([.int x]) (n := 1) (Nat.le_of_ble_eq_true rfl)
  rw [lg_entry_eq]
  generalize (lg_sl ([.int x]) ++ List.replicate (1 - (lg_sl ([.int x])).length) Slot.unset).toArray = ls at hl ⊢
  have hl : lv_has ls 1 [(0, .int (x))] := hl
  refine lv_iload_n hx hb dX1_isVariable_0 rfl (lv_at hl 0 rfl) ?_
  refine gz_if_lt (tgt := 14) (za := x.toInt) hx hb dX1_isVariable_1 (by decide) rfl (fun c_1 => ?_) (fun c_1 => ?_)
  · skip
    refine lv_iconst (v := nI 0) hx hb dX1_isVariable_14 (by decide) ?_
    exact W.zret (v := nI 0) hx hb hr rfl (fun t ht hW => ⟨(by first | rfl | (rw [if_pos (by first | assumption | omega)]) | (rw [if_neg (by first | assumption | omega)])), ht⟩) (fun q h => absurd h List.not_mem_nil) dX1_isVariable_15
  · skip
    refine lv_iload_n hx hb dX1_isVariable_4 rfl (lv_at hl 0 rfl) ?_
    refine lv_bipush (v := nI 40) hx hb dX1_isVariable_5 (by decide) ?_
    refine gz_icmp_ge (tgt := 14) (za := x.toInt) (zb := ((40 : Nat) : Int)) hx hb dX1_isVariable_7 (by decide) rfl (nI_toInt (by omega)) (fun c_2 => ?_) (fun c_2 => ?_)
    · skip
      refine lv_iconst (v := nI 0) hx hb dX1_isVariable_14 (by decide) ?_
      exact W.zret (v := nI 0) hx hb hr rfl (fun t ht hW => ⟨(by first | rfl | (rw [if_pos (by first | assumption | omega)]) | (rw [if_neg (by first | assumption | omega)])), ht⟩) (fun q h => absurd h List.not_mem_nil) dX1_isVariable_15
    · skip
      refine lv_iconst (v := nI 1) hx hb dX1_isVariable_10 (by decide) ?_
      refine lv_goto (tgt := 15) hx hb dX1_isVariable_11 (by decide) ?_
      exact W.zret (v := nI 1) hx hb hr rfl (fun t ht hW => ⟨(by first | rfl | (rw [if_pos (by first | assumption | omega)]) | (rw [if_neg (by first | assumption | omega)])), ht⟩) (fun q h => absurd h List.not_mem_nil) dX1_isVariable_15
set_option maxHeartbeats 4000000 in
set_option maxRecDepth 100000 in
theorem cM_isCell (l : Launch) (dC : Nat → ClassId) (dI : Nat → Nat → Nat) (cA cZ : ClassId) (gm ak ac ab al av ah ap : Nat) (fk fc fs fl fp fv ft : Nat → Int32) (rn cn : Nat) (sc : Int32) (x y : Int32) (hrn : 1 ≤ rn ∧ rn ≤ 12) (hcn : 1 ≤ cn ∧ cn ≤ 12)  : Met l yX1_isCell wsX1_isCell ({ frames := 0, cells := 0, slots := 0, locals := 0 }) (gPr (dC, dI) vwCl [(cA, .int), (cZ, .boolean)] [.ref gm, .int x, .int y] (mw cA cZ gm ak ac ab al av ah ap fk fc fs fl fp fv ft (nI rn) (nI cn) sc)) (QcRead (if 0 ≤ x.toInt ∧ x.toInt < (rn : Int) ∧ 0 ≤ y.toInt ∧ y.toInt < (cn : Int) then nI 1 else nI 0)) 0 0 (fun _ => False) := by
  refine Met.ofW (cc := cX1_isCell) (maxL := 3) (ret := (some .boolean)) (by decide) rfl ?_
  intro p e s m args below meth c s₁ B hml hv
  obtain ⟨rfl, hP, hK⟩ := hv
  have hx := B.exec
  have hb := B.bytes
  have hr := B.returns
  have hts := atoms_spec (ws := wsX1_isCell) B.pre
  have hown : s.vm.findClass RX1 = some m.cls := findClass_of_methodNamed B.named
  have hlocks := B.notSynchronized
  have hin1 : ∀ w ∈ u_ws RX1 TX1 10, w ∈ wsX1_isCell := by decide +kernel
  have lk36 := hts (.fieldLink RX1 36 "LadderGridModel" "rows" "I") (by decide +kernel)
  have lk40 := hts (.fieldLink RX1 40 "LadderGridModel" "columns" "I") (by decide +kernel)
  have hl := lv_entry ([.ref gm, .int x, .int y]) (n := 3) (Nat.le_of_ble_eq_true rfl)
  rw [lg_entry_eq]
  generalize (lg_sl ([.ref gm, .int x, .int y]) ++ List.replicate (3 - (lg_sl ([.ref gm, .int x, .int y])).length) Slot.unset).toArray = ls at hl ⊢
  have hl : lv_has ls 3 [(0, .ref gm), (1, .int (x)), (2, .int (y))] := hl
  refine lv_iload_n hx hb dX1_isCell_0 rfl (lv_at hl 1 rfl) ?_
  refine gz_if_lt (tgt := 28) (za := x.toInt) hx hb dX1_isCell_1 (by decide) rfl (fun c_1 => ?_) (fun c_1 => ?_)
  · skip
    refine lv_iconst (v := nI 0) hx hb dX1_isCell_28 (by decide) ?_
    exact W.zret (v := nI 0) hx hb hr rfl (fun t ht hW => ⟨(by first | rfl | (rw [if_pos (by first | assumption | omega)]) | (rw [if_neg (by first | assumption | omega)])), ht⟩) (fun q h => absurd h List.not_mem_nil) dX1_isCell_29
  · skip
    refine lv_iload_n hx hb dX1_isCell_4 rfl (lv_at hl 1 rfl) ?_
    refine lv_aload_n hx hb dX1_isCell_5 rfl (lv_at hl 0 rfl) ?_
    refine va_get (D := (dC, dI)) (ci := 1) (v := .int (nI rn)) (C := RX1) (T := TX1) (N := 10) hx hb hts hin1 hown hK hP 0 rfl rfl 0 (by decide) lk36 (fun _ h9 => h9) rfl dX1_isCell_6 ?_
    refine gz_icmp_ge (tgt := 28) (za := x.toInt) (zb := ((rn : Nat) : Int)) hx hb dX1_isCell_9 (by decide) rfl (nI_toInt (by omega)) (fun c_2 => ?_) (fun c_2 => ?_)
    · skip
      refine lv_iconst (v := nI 0) hx hb dX1_isCell_28 (by decide) ?_
      exact W.zret (v := nI 0) hx hb hr rfl (fun t ht hW => ⟨(by first | rfl | (rw [if_pos (by first | assumption | omega)]) | (rw [if_neg (by first | assumption | omega)])), ht⟩) (fun q h => absurd h List.not_mem_nil) dX1_isCell_29
    · skip
      refine lv_iload_n hx hb dX1_isCell_12 rfl (lv_at hl 2 rfl) ?_
      refine gz_if_lt (tgt := 28) (za := y.toInt) hx hb dX1_isCell_13 (by decide) rfl (fun c_3 => ?_) (fun c_3 => ?_)
      · skip
        refine lv_iconst (v := nI 0) hx hb dX1_isCell_28 (by decide) ?_
        exact W.zret (v := nI 0) hx hb hr rfl (fun t ht hW => ⟨(by first | rfl | (rw [if_pos (by first | assumption | omega)]) | (rw [if_neg (by first | assumption | omega)])), ht⟩) (fun q h => absurd h List.not_mem_nil) dX1_isCell_29
      · skip
        refine lv_iload_n hx hb dX1_isCell_16 rfl (lv_at hl 2 rfl) ?_
        refine lv_aload_n hx hb dX1_isCell_17 rfl (lv_at hl 0 rfl) ?_
        refine va_get (D := (dC, dI)) (ci := 1) (v := .int (nI cn)) (C := RX1) (T := TX1) (N := 10) hx hb hts hin1 hown hK hP 0 rfl rfl 1 (by decide) lk40 (fun _ h9 => h9) rfl dX1_isCell_18 ?_
        refine gz_icmp_ge (tgt := 28) (za := y.toInt) (zb := ((cn : Nat) : Int)) hx hb dX1_isCell_21 (by decide) rfl (nI_toInt (by omega)) (fun c_4 => ?_) (fun c_4 => ?_)
        · skip
          refine lv_iconst (v := nI 0) hx hb dX1_isCell_28 (by decide) ?_
          exact W.zret (v := nI 0) hx hb hr rfl (fun t ht hW => ⟨(by first | rfl | (rw [if_pos (by first | assumption | omega)]) | (rw [if_neg (by first | assumption | omega)])), ht⟩) (fun q h => absurd h List.not_mem_nil) dX1_isCell_29
        · skip
          refine lv_iconst (v := nI 1) hx hb dX1_isCell_24 (by decide) ?_
          refine lv_goto (tgt := 29) hx hb dX1_isCell_25 (by decide) ?_
          exact W.zret (v := nI 1) hx hb hr rfl (fun t ht hW => ⟨(by first | rfl | (rw [if_pos (by first | assumption | omega)]) | (rw [if_neg (by first | assumption | omega)])), ht⟩) (fun q h => absurd h List.not_mem_nil) dX1_isCell_29
set_option maxHeartbeats 4000000 in
set_option maxRecDepth 100000 in
theorem cM_get (l : Launch) (dC : Nat → ClassId) (dI : Nat → Nat → Nat) (cA cZ : ClassId) (gm ak ac ab al av ah ap : Nat) (fk fc fs fl fp fv ft : Nat → Int32) (rn cn : Nat) (sc : Int32) (i : Nat) (hrn : 1 ≤ rn ∧ rn ≤ 12) (hcn : 1 ≤ cn ∧ cn ≤ 12) (hi : i < 40) : Met l yX1_get wsX1_get ({ frames := 1, cells := 0, slots := 0, locals := 20 }) (gPr (dC, dI) vwCl [(cA, .int), (cZ, .boolean)] [.ref gm, .int (nI i)] (mw cA cZ gm ak ac ab al av ah ap fk fc fs fl fp fv ft (nI rn) (nI cn) sc)) (QcRead (fv i)) 0 0 (fun _ => False) := by
  refine Met.ofW (cc := cX1_get) (maxL := 2) (ret := (some .int)) (by decide) rfl ?_
  intro p e s m args below meth c s₁ B hml hv
  obtain ⟨rfl, hP, hK⟩ := hv
  have hx := B.exec
  have hb := B.bytes
  have hr := B.returns
  have hts := atoms_spec (ws := wsX1_get) B.pre
  have hown : s.vm.findClass RX1 = some m.cls := findClass_of_methodNamed B.named
  have hlocks := B.notSynchronized
  have hin1 : ∀ w ∈ u_ws RX1 TX1 10, w ∈ wsX1_get := by decide +kernel
  have lk23 := hts (.fieldLink RX1 23 "LadderGridModel" "values" "[I") (by decide +kernel)
  have hl := lv_entry ([.ref gm, .int (nI i)]) (n := 2) (Nat.le_of_ble_eq_true rfl)
  rw [lg_entry_eq]
  generalize (lg_sl ([.ref gm, .int (nI i)]) ++ List.replicate (2 - (lg_sl ([.ref gm, .int (nI i)])).length) Slot.unset).toArray = ls at hl ⊢
  have hl : lv_has ls 2 [(0, .ref gm), (1, .int (nI i))] := hl
  have zi := nI_toInt (n := i) (by omega)
  refine lv_iload_n hx hb dX1_get_0 rfl (lv_at hl 1 rfl) ?_
  refine gz_callR (W.runS (As := [.int (nI i)]) (rest := []) ⟨hx, hb, hml, hown, hts⟩ (cM_isVariable l (nI i)) (va_cwS 1 hts gX1_get_X1_isVariable rfl rfl rfl (by decide +kernel) ⟨Nat.le_of_ble_eq_true rfl, Nat.le_of_ble_eq_true rfl⟩) preEq rfl rfl hl.1 rfl (lv_room (Nat.le_of_ble_eq_true rfl)) dX1_get_1 ⟨Nat.le_of_ble_eq_true rfl, Nat.le_of_ble_eq_true rfl⟩) ?_
  refine gz_ifeqB (tgt := 16) hx hb dX1_get_4 (by decide) (fun c_1 => False.elim (by omega)) (fun c_1 => ?_)
  refine lv_aload_n hx hb dX1_get_7 rfl (lv_at hl 0 rfl) ?_
  refine va_get (D := (dC, dI)) (ci := 1) (v := .ref av) (C := RX1) (T := TX1) (N := 10) hx hb hts hin1 hown hK hP 0 rfl rfl 6 (by decide) lk23 (fun _ h9 => h9) rfl dX1_get_8 ?_
  refine lv_iload_n hx hb dX1_get_11 rfl (lv_at hl 1 rfl) ?_
  refine gz_iald (k := i) hx hb hK hP 5 0 rfl rfl (by omega) (by omega) dX1_get_12 ?_
  refine lv_goto (tgt := 17) hx hb dX1_get_13 (by decide) ?_
  exact W.iret (v := fv i) hx hb hr (fun t ht hW => ⟨rfl, ht⟩) (fun q h => absurd h List.not_mem_nil) dX1_get_17
set_option maxHeartbeats 4000000 in
set_option maxRecDepth 100000 in
theorem cM_get_bad (l : Launch) (dC : Nat → ClassId) (dI : Nat → Nat → Nat) (cA cZ : ClassId) (gm ak ac ab al av ah ap : Nat) (fk fc fs fl fp fv ft : Nat → Int32) (rn cn : Nat) (sc : Int32) (x : Int32) (hrn : 1 ≤ rn ∧ rn ≤ 12) (hcn : 1 ≤ cn ∧ cn ≤ 12) (hx0 : ¬ (0 ≤ x.toInt ∧ x.toInt < 40)) : Met l yX1_get wsX1_get ({ frames := 1, cells := 0, slots := 0, locals := 20 }) (gPr (dC, dI) vwCl [(cA, .int), (cZ, .boolean)] [.ref gm, .int x] (mw cA cZ gm ak ac ab al av ah ap fk fc fs fl fp fv ft (nI rn) (nI cn) sc)) (QcRead (-1)) 0 0 (fun _ => False) := by
  refine Met.ofW (cc := cX1_get) (maxL := 2) (ret := (some .int)) (by decide) rfl ?_
  intro p e s m args below meth c s₁ B hml hv
  obtain ⟨rfl, hP, hK⟩ := hv
  have hx := B.exec
  have hb := B.bytes
  have hr := B.returns
  have hts := atoms_spec (ws := wsX1_get) B.pre
  have hown : s.vm.findClass RX1 = some m.cls := findClass_of_methodNamed B.named
  have hlocks := B.notSynchronized
  have hin1 : ∀ w ∈ u_ws RX1 TX1 10, w ∈ wsX1_get := by decide +kernel
  have lk23 := hts (.fieldLink RX1 23 "LadderGridModel" "values" "[I") (by decide +kernel)
  have hl := lv_entry ([.ref gm, .int x]) (n := 2) (Nat.le_of_ble_eq_true rfl)
  rw [lg_entry_eq]
  generalize (lg_sl ([.ref gm, .int x]) ++ List.replicate (2 - (lg_sl ([.ref gm, .int x])).length) Slot.unset).toArray = ls at hl ⊢
  have hl : lv_has ls 2 [(0, .ref gm), (1, .int (x))] := hl
  refine lv_iload_n hx hb dX1_get_0 rfl (lv_at hl 1 rfl) ?_
  refine gz_callR (W.runS (As := [.int (x)]) (rest := []) ⟨hx, hb, hml, hown, hts⟩ (cM_isVariable l x) (va_cwS 1 hts gX1_get_X1_isVariable rfl rfl rfl (by decide +kernel) ⟨Nat.le_of_ble_eq_true rfl, Nat.le_of_ble_eq_true rfl⟩) preEq rfl rfl hl.1 rfl (lv_room (Nat.le_of_ble_eq_true rfl)) dX1_get_1 ⟨Nat.le_of_ble_eq_true rfl, Nat.le_of_ble_eq_true rfl⟩) ?_
  refine gz_ifeqB (tgt := 16) hx hb dX1_get_4 (by decide) (fun c_1 => ?_) (fun c_1 => False.elim (hx0 c_1))
  refine lv_iconst (v := (-1)) hx hb dX1_get_16 (by decide) ?_
  exact W.iret (v := (-1)) hx hb hr (fun t ht hW => ⟨rfl, ht⟩) (fun q h => absurd h List.not_mem_nil) dX1_get_17
set_option maxHeartbeats 4000000 in
set_option maxRecDepth 100000 in
theorem cM_set (l : Launch) (dC : Nat → ClassId) (dI : Nat → Nat → Nat) (sz : Nat) (cA cZ : ClassId) (gm ak ac ab al av ah ap : Nat) (fk fc fs fl fp fv ft : Nat → Int32) (rn cn : Nat) (sc : Int32) (i v : Nat) (hrn : 1 ≤ rn ∧ rn ≤ 12) (hcn : 1 ≤ cn ∧ cn ≤ 12) (hi : i < 40) (hv : v ≤ 1) : Met l yX1_set wsX1_set ({ frames := 1, cells := 0, slots := 0, locals := 20 }) (gPw (dC, dI) vwCl [(cA, .int), (cZ, .boolean)] [.ref gm, .int (nI i), .int (nI v)] sz (mw cA cZ gm ak ac ab al av ah ap fk fc fs fl fp fv ft (nI rn) (nI cn) sc)) (gQA (dC, dI) vwCl [(cA, .int), (cZ, .boolean)] (fv i) (va_A (mw cA cZ gm ak ac ab al av ah ap fk fc fs fl fp fv ft (nI rn) (nI cn) sc) sz) (mw cA cZ gm ak ac ab al av ah ap fk fc fs fl fp (upd fv i (nI v)) ft (nI rn) (nI cn) sc)) 0 0 (va_A (mw cA cZ gm ak ac ab al av ah ap fk fc fs fl fp fv ft (nI rn) (nI cn) sc) sz) := by
  refine Met.ofW (cc := cX1_set) (maxL := 4) (ret := (some .int)) (by decide) rfl ?_
  intro p e s m args below meth c s₁ B hml hv
  obtain ⟨rfl, hsz, hP, hK, hD0⟩ := hv
  have hx := B.exec
  have hb := B.bytes
  have hr := B.returns
  have hts := atoms_spec (ws := wsX1_set) B.pre
  have hown : s.vm.findClass RX1 = some m.cls := findClass_of_methodNamed B.named
  have hlocks := B.notSynchronized
  subst hsz
  have hD := hD0.self (sz := s.heap.size)
  generalize hAe : va_A (mw cA cZ gm ak ac ab al av ah ap fk fc fs fl fp fv ft (nI rn) (nI cn) sc) s.heap.size = A at hD ⊢
  have hA : ∀ q : Nat, s.heap.size ≤ q → A q := fun q h => by rw [← hAe]; exact Or.inr h
  have hS : va_S A s.heap s.heap [] := va_S.rf
  have hin1 : ∀ w ∈ u_ws RX1 TX1 10, w ∈ wsX1_set := by decide +kernel
  have lk23 := hts (.fieldLink RX1 23 "LadderGridModel" "values" "[I") (by decide +kernel)
  have hl := lv_entry ([.ref gm, .int (nI i), .int (nI v)]) (n := 4) (Nat.le_of_ble_eq_true rfl)
  rw [lg_entry_eq]
  generalize (lg_sl ([.ref gm, .int (nI i), .int (nI v)]) ++ List.replicate (4 - (lg_sl ([.ref gm, .int (nI i), .int (nI v)])).length) Slot.unset).toArray = ls at hl ⊢
  have hl : lv_has ls 4 [(0, .ref gm), (1, .int (nI i)), (2, .int (nI v))] := hl
  have zi := nI_toInt (n := i) (by omega)
  suffices key : ∀ (H : Heap) (locs : List Loc), va_P (dC, dI) vwCl (mw cA cZ gm ak ac ab al av ah ap fk fc fs fl fp fv ft (nI rn) (nI cn) sc) H → va_D A (mw cA cZ gm ak ac ab al av ah ap fk fc fs fl fp fv ft (nI rn) (nI cn) sc) → va_S A s.heap H locs → W p l e (headSpec wsX1_set ({ frames := 1, cells := 0, slots := 0, locals := 20 })).room s m ([.ref gm, .int (nI i), .int (nI v)] : List Value).toArray below meth c H locs 0 0 (MQ below (gQA (dC, dI) vwCl [(cA, .int), (cZ, .boolean)] (fv i) A (mw cA cZ gm ak ac ab al av ah ap fk fc fs fl fp (upd fv i (nI v)) ft (nI rn) (nI cn) sc)) ([.ref gm, .int (nI i), .int (nI v)] : List Value).toArray s 0 0 A) (F0 m 0 ls []) from key s.heap [] hP hD hS
  clear hP hD hS
  intro H locs hP hD hS
  refine lv_iload_n hx hb dX1_set_0 rfl (lv_at hl 1 rfl) ?_
  refine gz_callR (W.runS (As := [.int (nI i)]) (rest := []) ⟨hx, hb, hml, hown, hts⟩ (cM_isVariable l (nI i)) (va_cwS 1 hts gX1_set_X1_isVariable rfl rfl rfl (by decide +kernel) ⟨Nat.le_of_ble_eq_true rfl, Nat.le_of_ble_eq_true rfl⟩) preEq rfl rfl hl.1 rfl (lv_room (Nat.le_of_ble_eq_true rfl)) dX1_set_1 ⟨Nat.le_of_ble_eq_true rfl, Nat.le_of_ble_eq_true rfl⟩) ?_
  refine gz_ifeqB (tgt := 16) hx hb dX1_set_4 (by decide) (fun c_1 => False.elim (by omega)) (fun c_1 => ?_)
  refine lv_iload_n hx hb dX1_set_7 rfl (lv_at hl 2 rfl) ?_
  refine gz_if_lt (tgt := 16) (za := ((v : Nat) : Int)) hx hb dX1_set_8 (by decide) (nI_toInt (by omega)) (fun c_2 => False.elim (by omega)) (fun c_2 => ?_)
  refine lv_iload_n hx hb dX1_set_11 rfl (lv_at hl 2 rfl) ?_
  refine lv_iconst (v := nI 1) hx hb dX1_set_12 (by decide) ?_
  refine gz_icmp_le (tgt := 18) (za := ((v : Nat) : Int)) (zb := ((1 : Nat) : Int)) hx hb dX1_set_13 (by decide) (nI_toInt (by omega)) (nI_toInt (by omega)) (fun c_3 => ?_) (fun c_3 => False.elim (by omega))
  refine lv_aload_n hx hb dX1_set_18 rfl (lv_at hl 0 rfl) ?_
  refine va_get (D := (dC, dI)) (ci := 1) (v := .ref av) (C := RX1) (T := TX1) (N := 10) hx hb hts hin1 hown hK hP 0 rfl rfl 6 (by decide) lk23 (fun _ h9 => h9) rfl dX1_set_19 ?_
  refine lv_iload_n hx hb dX1_set_22 rfl (lv_at hl 1 rfl) ?_
  refine gz_iald (k := i) hx hb hK hP 5 0 rfl rfl (by omega) (by omega) dX1_set_23 ?_
  refine lv_istore_n (lv' := [(3, .int (fv i)), (0, .ref gm), (1, .int (nI i)), (2, .int (nI v))]) hx hb dX1_set_24 rfl hl (by decide) rfl (fun ls hl => ?_)
  refine lv_aload_n hx hb dX1_set_25 rfl (lv_at hl 1 rfl) ?_
  refine va_get (D := (dC, dI)) (ci := 1) (v := .ref av) (C := RX1) (T := TX1) (N := 10) hx hb hts hin1 hown hK hP 0 rfl rfl 6 (by decide) lk23 (fun _ h9 => h9) rfl dX1_set_26 ?_
  refine lv_iload_n hx hb dX1_set_29 rfl (lv_at hl 2 rfl) ?_
  refine lv_iload_n hx hb dX1_set_30 rfl (lv_at hl 3 rfl) ?_
  refine gz_iast (k := i) hx hb hK hP hD hS 5 0 rfl rfl (by omega) (by omega) dX1_set_31 (fun H locs hP hD hS => ?_)
  have hP : va_P (dC, dI) vwCl (mw cA cZ gm ak ac ab al av ah ap fk fc fs fl fp (upd fv i (nI v)) ft (nI rn) (nI cn) sc) H := hP
  have hD : va_D A (mw cA cZ gm ak ac ab al av ah ap fk fc fs fl fp (upd fv i (nI v)) ft (nI rn) (nI cn) sc) := hD
  refine lv_iload_n hx hb dX1_set_32 rfl (lv_at hl 0 rfl) ?_
  exact W.iret (v := fv i) hx hb hr (fun t ht hW => ⟨⟨fv i, (), rfl, rfl, by rw [ht]; exact hP, va_K.moved hW.alike hK, hD⟩, hS.F ht⟩) hS.2.2 dX1_set_33
set_option maxHeartbeats 4000000 in
set_option maxRecDepth 100000 in
theorem cM_set_bad (l : Launch) (dC : Nat → ClassId) (dI : Nat → Nat → Nat) (cA cZ : ClassId) (gm ak ac ab al av ah ap : Nat) (fk fc fs fl fp fv ft : Nat → Int32) (rn cn : Nat) (sc : Int32) (x y : Int32) (hrn : 1 ≤ rn ∧ rn ≤ 12) (hcn : 1 ≤ cn ∧ cn ≤ 12) (hx0 : ¬ (0 ≤ x.toInt ∧ x.toInt < 40 ∧ 0 ≤ y.toInt ∧ y.toInt ≤ 1)) : Met l yX1_set wsX1_set ({ frames := 1, cells := 0, slots := 0, locals := 20 }) (gPr (dC, dI) vwCl [(cA, .int), (cZ, .boolean)] [.ref gm, .int x, .int y] (mw cA cZ gm ak ac ab al av ah ap fk fc fs fl fp fv ft (nI rn) (nI cn) sc)) (QcRead (-1)) 0 0 (fun _ => False) := by
  refine Met.ofW (cc := cX1_set) (maxL := 4) (ret := (some .int)) (by decide) rfl ?_
  intro p e s m args below meth c s₁ B hml hv
  obtain ⟨rfl, hP, hK⟩ := hv
  have hx := B.exec
  have hb := B.bytes
  have hr := B.returns
  have hts := atoms_spec (ws := wsX1_set) B.pre
  have hown : s.vm.findClass RX1 = some m.cls := findClass_of_methodNamed B.named
  have hlocks := B.notSynchronized
  have hin1 : ∀ w ∈ u_ws RX1 TX1 10, w ∈ wsX1_set := by decide +kernel
  have lk23 := hts (.fieldLink RX1 23 "LadderGridModel" "values" "[I") (by decide +kernel)
  have hl := lv_entry ([.ref gm, .int x, .int y]) (n := 4) (Nat.le_of_ble_eq_true rfl)
  rw [lg_entry_eq]
  generalize (lg_sl ([.ref gm, .int x, .int y]) ++ List.replicate (4 - (lg_sl ([.ref gm, .int x, .int y])).length) Slot.unset).toArray = ls at hl ⊢
  have hl : lv_has ls 4 [(0, .ref gm), (1, .int (x)), (2, .int (y))] := hl
  refine lv_iload_n hx hb dX1_set_0 rfl (lv_at hl 1 rfl) ?_
  refine gz_callR (W.runS (As := [.int (x)]) (rest := []) ⟨hx, hb, hml, hown, hts⟩ (cM_isVariable l x) (va_cwS 1 hts gX1_set_X1_isVariable rfl rfl rfl (by decide +kernel) ⟨Nat.le_of_ble_eq_true rfl, Nat.le_of_ble_eq_true rfl⟩) preEq rfl rfl hl.1 rfl (lv_room (Nat.le_of_ble_eq_true rfl)) dX1_set_1 ⟨Nat.le_of_ble_eq_true rfl, Nat.le_of_ble_eq_true rfl⟩) ?_
  refine gz_ifeqB (tgt := 16) hx hb dX1_set_4 (by decide) (fun c_1 => ?_) (fun c_1 => ?_)
  · skip
    refine lv_iconst (v := (-1)) hx hb dX1_set_16 (by decide) ?_
    exact W.iret (v := (-1)) hx hb hr (fun t ht hW => ⟨rfl, ht⟩) (fun q h => absurd h List.not_mem_nil) dX1_set_17
  · skip
    refine lv_iload_n hx hb dX1_set_7 rfl (lv_at hl 2 rfl) ?_
    refine gz_if_lt (tgt := 16) (za := y.toInt) hx hb dX1_set_8 (by decide) rfl (fun c_2 => ?_) (fun c_2 => ?_)
    · skip
      refine lv_iconst (v := (-1)) hx hb dX1_set_16 (by decide) ?_
      exact W.iret (v := (-1)) hx hb hr (fun t ht hW => ⟨rfl, ht⟩) (fun q h => absurd h List.not_mem_nil) dX1_set_17
    · skip
      refine lv_iload_n hx hb dX1_set_11 rfl (lv_at hl 2 rfl) ?_
      refine lv_iconst (v := nI 1) hx hb dX1_set_12 (by decide) ?_
      refine gz_icmp_le (tgt := 18) (za := y.toInt) (zb := ((1 : Nat) : Int)) hx hb dX1_set_13 (by decide) rfl (nI_toInt (by omega)) (fun c_3 => False.elim (by omega)) (fun c_3 => ?_)
      refine lv_iconst (v := (-1)) hx hb dX1_set_16 (by decide) ?_
      exact W.iret (v := (-1)) hx hb hr (fun t ht hW => ⟨rfl, ht⟩) (fun q h => absurd h List.not_mem_nil) dX1_set_17
set_option maxHeartbeats 4000000 in
set_option maxRecDepth 100000 in
theorem cM_begin_bad (l : Launch) (dC : Nat → ClassId) (dI : Nat → Nat → Nat) (cA cZ : ClassId) (gm ak ac ab al av ah ap : Nat) (fk fc fs fl fp fv ft : Nat → Int32) (rn cn : Nat) (sc : Int32) (x y : Int32) (hrn : 1 ≤ rn ∧ rn ≤ 12) (hcn : 1 ≤ cn ∧ cn ≤ 12) (hx0 : ¬ (1 ≤ x.toInt ∧ x.toInt ≤ 12 ∧ 1 ≤ y.toInt ∧ y.toInt ≤ 12)) : Met l yX1_begin wsX1_begin ({ frames := 0, cells := 0, slots := 0, locals := 0 }) (gPr (dC, dI) vwCl [(cA, .int), (cZ, .boolean)] [.ref gm, .int x, .int y] (mw cA cZ gm ak ac ab al av ah ap fk fc fs fl fp fv ft (nI rn) (nI cn) sc)) (QcRead (-1)) 0 0 (fun _ => False) := by
  refine Met.ofW (cc := cX1_begin) (maxL := 4) (ret := (some .int)) (by decide) rfl ?_
  intro p e s m args below meth c s₁ B hml hv
  obtain ⟨rfl, hP, hK⟩ := hv
  have hx := B.exec
  have hb := B.bytes
  have hr := B.returns
  have hts := atoms_spec (ws := wsX1_begin) B.pre
  have hown : s.vm.findClass RX1 = some m.cls := findClass_of_methodNamed B.named
  have hlocks := B.notSynchronized
  have hin1 : ∀ w ∈ u_ws RX1 TX1 10, w ∈ wsX1_begin := by decide +kernel
  have lk36 := hts (.fieldLink RX1 36 "LadderGridModel" "rows" "I") (by decide +kernel)
  have lk40 := hts (.fieldLink RX1 40 "LadderGridModel" "columns" "I") (by decide +kernel)
  have lk7 := hts (.fieldLink RX1 7 "LadderGridModel" "kinds" "[I") (by decide +kernel)
  have lk13 := hts (.fieldLink RX1 13 "LadderGridModel" "variables" "[I") (by decide +kernel)
  have lk16 := hts (.fieldLink RX1 16 "LadderGridModel" "before" "[I") (by decide +kernel)
  have lk19 := hts (.fieldLink RX1 19 "LadderGridModel" "isLinked" "[Z") (by decide +kernel)
  have lk43 := hts (.fieldLink RX1 43 "LadderGridModel" "isScanned" "Z") (by decide +kernel)
  have hl := lv_entry ([.ref gm, .int x, .int y]) (n := 4) (Nat.le_of_ble_eq_true rfl)
  rw [lg_entry_eq]
  generalize (lg_sl ([.ref gm, .int x, .int y]) ++ List.replicate (4 - (lg_sl ([.ref gm, .int x, .int y])).length) Slot.unset).toArray = ls at hl ⊢
  have hl : lv_has ls 4 [(0, .ref gm), (1, .int (x)), (2, .int (y))] := hl
  refine lv_iload_n hx hb dX1_begin_0 rfl (lv_at hl 1 rfl) ?_
  refine lv_iconst (v := nI 1) hx hb dX1_begin_1 (by decide) ?_
  refine gz_icmp_lt (tgt := 22) (za := x.toInt) (zb := ((1 : Nat) : Int)) hx hb dX1_begin_2 (by decide) rfl (nI_toInt (by omega)) (fun c_1 => ?_) (fun c_1 => ?_)
  · skip
    refine lv_iconst (v := (-1)) hx hb dX1_begin_22 (by decide) ?_
    exact W.iret (v := (-1)) hx hb hr (fun t ht hW => ⟨rfl, ht⟩) (fun q h => absurd h List.not_mem_nil) dX1_begin_23
  · skip
    refine lv_iload_n hx hb dX1_begin_5 rfl (lv_at hl 1 rfl) ?_
    refine lv_bipush (v := nI 12) hx hb dX1_begin_6 (by decide) ?_
    refine gz_icmp_gt (tgt := 22) (za := x.toInt) (zb := ((12 : Nat) : Int)) hx hb dX1_begin_8 (by decide) rfl (nI_toInt (by omega)) (fun c_2 => ?_) (fun c_2 => ?_)
    · skip
      refine lv_iconst (v := (-1)) hx hb dX1_begin_22 (by decide) ?_
      exact W.iret (v := (-1)) hx hb hr (fun t ht hW => ⟨rfl, ht⟩) (fun q h => absurd h List.not_mem_nil) dX1_begin_23
    · skip
      refine lv_iload_n hx hb dX1_begin_11 rfl (lv_at hl 2 rfl) ?_
      refine lv_iconst (v := nI 1) hx hb dX1_begin_12 (by decide) ?_
      refine gz_icmp_lt (tgt := 22) (za := y.toInt) (zb := ((1 : Nat) : Int)) hx hb dX1_begin_13 (by decide) rfl (nI_toInt (by omega)) (fun c_3 => ?_) (fun c_3 => ?_)
      · skip
        refine lv_iconst (v := (-1)) hx hb dX1_begin_22 (by decide) ?_
        exact W.iret (v := (-1)) hx hb hr (fun t ht hW => ⟨rfl, ht⟩) (fun q h => absurd h List.not_mem_nil) dX1_begin_23
      · skip
        refine lv_iload_n hx hb dX1_begin_16 rfl (lv_at hl 2 rfl) ?_
        refine lv_bipush (v := nI 12) hx hb dX1_begin_17 (by decide) ?_
        refine gz_icmp_le (tgt := 24) (za := y.toInt) (zb := ((12 : Nat) : Int)) hx hb dX1_begin_19 (by decide) rfl (nI_toInt (by omega)) (fun c_4 => False.elim (by omega)) (fun c_4 => ?_)
        refine lv_iconst (v := (-1)) hx hb dX1_begin_22 (by decide) ?_
        exact W.iret (v := (-1)) hx hb hr (fun t ht hW => ⟨rfl, ht⟩) (fun q h => absurd h List.not_mem_nil) dX1_begin_23
set_option maxHeartbeats 4000000 in
set_option maxRecDepth 100000 in
theorem cM_begin (l : Launch) (dC : Nat → ClassId) (dI : Nat → Nat → Nat) (sz : Nat) (cA cZ : ClassId) (gm ak ac ab al av ah ap : Nat) (fk fc fs fl fp fv ft : Nat → Int32) (r0 c0 sc : Int32) (rn cn : Nat) (hi : 1 ≤ rn ∧ rn ≤ 12) (hj : 1 ≤ cn ∧ cn ≤ 12) : Met l yX1_begin wsX1_begin ({ frames := 0, cells := 0, slots := 0, locals := 0 }) (gPw (dC, dI) vwCl [(cA, .int), (cZ, .boolean)] [.ref gm, .int (nI rn), .int (nI cn)] sz (mw cA cZ gm ak ac ab al av ah ap fk fc fs fl fp fv ft r0 c0 sc)) (gQA (dC, dI) vwCl [(cA, .int), (cZ, .boolean)] (nI 0) (va_A (mw cA cZ gm ak ac ab al av ah ap fk fc fs fl fp fv ft r0 c0 sc) sz) (mw cA cZ gm ak ac ab al av ah ap (fun _ => nI 0) (fun _ => nI 0) (fun _ => nI 0) (fun _ => nI 0) fp fv ft (nI rn) (nI cn) (nI 0))) 0 0 (va_A (mw cA cZ gm ak ac ab al av ah ap fk fc fs fl fp fv ft r0 c0 sc) sz) := by
  refine Met.ofW (cc := cX1_begin) (maxL := 4) (ret := (some .int)) (by decide) rfl ?_
  intro p e s m args below meth c s₁ B hml hv
  obtain ⟨rfl, hsz, hP, hK, hD0⟩ := hv
  have hx := B.exec
  have hb := B.bytes
  have hr := B.returns
  have hts := atoms_spec (ws := wsX1_begin) B.pre
  have hown : s.vm.findClass RX1 = some m.cls := findClass_of_methodNamed B.named
  have hlocks := B.notSynchronized
  subst hsz
  have hD := hD0.self (sz := s.heap.size)
  generalize hAe : va_A (mw cA cZ gm ak ac ab al av ah ap fk fc fs fl fp fv ft r0 c0 sc) s.heap.size = A at hD ⊢
  have hA : ∀ q : Nat, s.heap.size ≤ q → A q := fun q h => by rw [← hAe]; exact Or.inr h
  have hS : va_S A s.heap s.heap [] := va_S.rf
  have hin1 : ∀ w ∈ u_ws RX1 TX1 10, w ∈ wsX1_begin := by decide +kernel
  have lk36 := hts (.fieldLink RX1 36 "LadderGridModel" "rows" "I") (by decide +kernel)
  have lk40 := hts (.fieldLink RX1 40 "LadderGridModel" "columns" "I") (by decide +kernel)
  have lk7 := hts (.fieldLink RX1 7 "LadderGridModel" "kinds" "[I") (by decide +kernel)
  have lk13 := hts (.fieldLink RX1 13 "LadderGridModel" "variables" "[I") (by decide +kernel)
  have lk16 := hts (.fieldLink RX1 16 "LadderGridModel" "before" "[I") (by decide +kernel)
  have lk19 := hts (.fieldLink RX1 19 "LadderGridModel" "isLinked" "[Z") (by decide +kernel)
  have lk43 := hts (.fieldLink RX1 43 "LadderGridModel" "isScanned" "Z") (by decide +kernel)
  have hl := lv_entry ([.ref gm, .int (nI rn), .int (nI cn)]) (n := 4) (Nat.le_of_ble_eq_true rfl)
  rw [lg_entry_eq]
  generalize (lg_sl ([.ref gm, .int (nI rn), .int (nI cn)]) ++ List.replicate (4 - (lg_sl ([.ref gm, .int (nI rn), .int (nI cn)])).length) Slot.unset).toArray = ls at hl ⊢
  have hl : lv_has ls 4 [(0, .ref gm), (1, .int (nI rn)), (2, .int (nI cn))] := hl
  suffices key : ∀ (H : Heap) (locs : List Loc), va_P (dC, dI) vwCl (mw cA cZ gm ak ac ab al av ah ap fk fc fs fl fp fv ft r0 c0 sc) H → va_D A (mw cA cZ gm ak ac ab al av ah ap fk fc fs fl fp fv ft r0 c0 sc) → va_S A s.heap H locs → W p l e (headSpec wsX1_begin ({ frames := 0, cells := 0, slots := 0, locals := 0 })).room s m ([.ref gm, .int (nI rn), .int (nI cn)] : List Value).toArray below meth c H locs 0 0 (MQ below (gQA (dC, dI) vwCl [(cA, .int), (cZ, .boolean)] (nI 0) A (mw cA cZ gm ak ac ab al av ah ap (fun _ => nI 0) (fun _ => nI 0) (fun _ => nI 0) (fun _ => nI 0) fp fv ft (nI rn) (nI cn) (nI 0))) ([.ref gm, .int (nI rn), .int (nI cn)] : List Value).toArray s 0 0 A) (F0 m 0 ls []) from key s.heap [] hP hD hS
  clear hP hD hS
  intro H locs hP hD hS
  have loop2 : ∀ (n : Nat) (k : Nat), k + n = 156 → ∀ (H : Heap) (locs : List Loc), va_P (dC, dI) vwCl (mw cA cZ gm ak ac ab al av ah ap (fun _ => nI 0) (fun _ => nI 0) (fun _ => nI 0) (gFill fl (nI 0) k) fp fv ft (nI rn) (nI cn) sc) H → va_D A (mw cA cZ gm ak ac ab al av ah ap (fun _ => nI 0) (fun _ => nI 0) (fun _ => nI 0) (gFill fl (nI 0) k) fp fv ft (nI rn) (nI cn) sc) → va_S A s.heap H locs → ∀ (ls : Array Slot), lv_has ls 4 [(3, .int (nI k)), (0, .ref gm), (1, .int (nI rn)), (2, .int (nI cn))] → W p l e (headSpec wsX1_begin ({ frames := 0, cells := 0, slots := 0, locals := 0 })).room s m ([.ref gm, .int (nI rn), .int (nI cn)] : List Value).toArray below meth c H locs 0 0 (MQ below (gQA (dC, dI) vwCl [(cA, .int), (cZ, .boolean)] (nI 0) A (mw cA cZ gm ak ac ab al av ah ap (fun _ => nI 0) (fun _ => nI 0) (fun _ => nI 0) (fun _ => nI 0) fp fv ft (nI rn) (nI cn) (nI 0))) ([.ref gm, .int (nI rn), .int (nI cn)] : List Value).toArray s 0 0 A) (F0 m 72 ls []) := by
    intro n
    induction n with
    | zero =>
      intro k hk H locs hP hD hS ls hl
      refine lv_iload_n hx hb dX1_begin_72 rfl (lv_at hl 0 rfl) ?_
      refine lv_sipush (v := nI 156) hx hb dX1_begin_73 (by decide) ?_
      refine gz_icmp_ge (tgt := 92) (za := ((k : Nat) : Int)) (zb := ((156 : Nat) : Int)) hx hb dX1_begin_76 (by decide) (nI_toInt (by omega)) (nI_toInt (by omega)) (fun c_1 => ?_) (fun c_1 => False.elim (by omega))
      have hP : va_P (dC, dI) vwCl (mw cA cZ gm ak ac ab al av ah ap (fun _ => nI 0) (fun _ => nI 0) (fun _ => nI 0) (fun _ => nI 0) fp fv ft (nI rn) (nI cn) sc) H := gz_setext hP 4 rfl (fun j hj => gFill_in fl (nI 0) k j (by omega))
      have hD : va_D A (mw cA cZ gm ak ac ab al av ah ap (fun _ => nI 0) (fun _ => nI 0) (fun _ => nI 0) (fun _ => nI 0) fp fv ft (nI rn) (nI cn) sc) := va_D.set (p := 4) hD rfl
      refine lv_aload_n hx hb dX1_begin_92 rfl (lv_at hl 1 rfl) ?_
      refine lv_iconst (v := nI 0) hx hb dX1_begin_93 (by decide) ?_
      refine va_put (D := (dC, dI)) (ci := 1) (v := .int (nI 0)) (ty := .boolean) (C := RX1) (T := TX1) (N := 10) hx hb hts hin1 tyX1 tyX1_ok nmX1 hown hK hP hD hS 0 rfl rfl 9 (by decide) lk43 (fun _ h9 => h9) rfl (by decide +kernel) rfl rfl (Nat.le_of_ble_eq_true rfl) dX1_begin_94 (fun H locs hP hD hS => ?_)
      have hP : va_P (dC, dI) vwCl (mw cA cZ gm ak ac ab al av ah ap (fun _ => nI 0) (fun _ => nI 0) (fun _ => nI 0) (fun _ => nI 0) fp fv ft (nI rn) (nI cn) (nI 0)) H := hP
      have hD : va_D A (mw cA cZ gm ak ac ab al av ah ap (fun _ => nI 0) (fun _ => nI 0) (fun _ => nI 0) (fun _ => nI 0) fp fv ft (nI rn) (nI cn) (nI 0)) := hD
      refine lv_iconst (v := nI 0) hx hb dX1_begin_97 (by decide) ?_
      exact W.iret (v := nI 0) hx hb hr (fun t ht hW => ⟨⟨nI 0, (), rfl, rfl, by rw [ht]; exact hP, va_K.moved hW.alike hK, hD⟩, hS.F ht⟩) hS.2.2 dX1_begin_98
    | succ n ih =>
      intro k hk H locs hP hD hS ls hl
      refine lv_iload_n hx hb dX1_begin_72 rfl (lv_at hl 0 rfl) ?_
      refine lv_sipush (v := nI 156) hx hb dX1_begin_73 (by decide) ?_
      refine gz_icmp_ge (tgt := 92) (za := ((k : Nat) : Int)) (zb := ((156 : Nat) : Int)) hx hb dX1_begin_76 (by decide) (nI_toInt (by omega)) (nI_toInt (by omega)) (fun c_1 => False.elim (by omega)) (fun c_1 => ?_)
      refine lv_aload_n hx hb dX1_begin_79 rfl (lv_at hl 1 rfl) ?_
      refine va_get (D := (dC, dI)) (ci := 1) (v := .ref al) (C := RX1) (T := TX1) (N := 10) hx hb hts hin1 hown hK hP 0 rfl rfl 5 (by decide) lk19 (fun _ h9 => h9) rfl dX1_begin_80 ?_
      refine lv_iload_n hx hb dX1_begin_83 rfl (lv_at hl 0 rfl) ?_
      refine lv_iconst (v := nI 0) hx hb dX1_begin_84 (by decide) ?_
      refine gz_zast (k := k) hx hb hK hP hD hS 4 1 rfl rfl gz_nar0 (by omega) (by omega) dX1_begin_85 (fun H locs hP hD hS => ?_)
      have hP : va_P (dC, dI) vwCl (mw cA cZ gm ak ac ab al av ah ap (fun _ => nI 0) (fun _ => nI 0) (fun _ => nI 0) (upd (gFill fl (nI 0) k) k (nI 0)) fp fv ft (nI rn) (nI cn) sc) H := hP
      have hD : va_D A (mw cA cZ gm ak ac ab al av ah ap (fun _ => nI 0) (fun _ => nI 0) (fun _ => nI 0) (upd (gFill fl (nI 0) k) k (nI 0)) fp fv ft (nI rn) (nI cn) sc) := hD
      refine lv_iinc (v := nI (k + 1)) (lv' := [(3, .int (nI (k + 1))), (0, .ref gm), (1, .int (nI rn)), (2, .int (nI cn))]) hx hb dX1_begin_86 hl (k := 0) rfl (nI_1 _) (by decide) rfl (fun ls hl => ?_)
      refine lv_goto (tgt := 72) hx hb dX1_begin_89 (by decide) ?_
      exact ih (k + 1) (by omega) H locs hP hD hS ls (lv_sub hl [0, 1, 2, 3] rfl)
  have loop1 : ∀ (n : Nat) (k : Nat), k + n = 144 → ∀ (H : Heap) (locs : List Loc), va_P (dC, dI) vwCl (mw cA cZ gm ak ac ab al av ah ap (gFill fk (nI 0) k) (gFill fc (nI 0) k) (gFill fs (nI 0) k) fl fp fv ft (nI rn) (nI cn) sc) H → va_D A (mw cA cZ gm ak ac ab al av ah ap (gFill fk (nI 0) k) (gFill fc (nI 0) k) (gFill fs (nI 0) k) fl fp fv ft (nI rn) (nI cn) sc) → va_S A s.heap H locs → ∀ (ls : Array Slot), lv_has ls 4 [(3, .int (nI k)), (0, .ref gm), (1, .int (nI rn)), (2, .int (nI cn))] → W p l e (headSpec wsX1_begin ({ frames := 0, cells := 0, slots := 0, locals := 0 })).room s m ([.ref gm, .int (nI rn), .int (nI cn)] : List Value).toArray below meth c H locs 0 0 (MQ below (gQA (dC, dI) vwCl [(cA, .int), (cZ, .boolean)] (nI 0) A (mw cA cZ gm ak ac ab al av ah ap (fun _ => nI 0) (fun _ => nI 0) (fun _ => nI 0) (fun _ => nI 0) fp fv ft (nI rn) (nI cn) (nI 0))) ([.ref gm, .int (nI rn), .int (nI cn)] : List Value).toArray s 0 0 A) (F0 m 36 ls []) := by
    intro n
    induction n with
    | zero =>
      intro k hk H locs hP hD hS ls hl
      refine lv_iload_n hx hb dX1_begin_36 rfl (lv_at hl 0 rfl) ?_
      refine lv_sipush (v := nI 144) hx hb dX1_begin_37 (by decide) ?_
      refine gz_icmp_ge (tgt := 70) (za := ((k : Nat) : Int)) (zb := ((144 : Nat) : Int)) hx hb dX1_begin_40 (by decide) (nI_toInt (by omega)) (nI_toInt (by omega)) (fun c_1 => ?_) (fun c_1 => False.elim (by omega))
      have hP : va_P (dC, dI) vwCl (mw cA cZ gm ak ac ab al av ah ap (fun _ => nI 0) (gFill fc (nI 0) k) (gFill fs (nI 0) k) fl fp fv ft (nI rn) (nI cn) sc) H := gz_setext hP 1 rfl (fun j hj => gFill_in fk (nI 0) k j (by omega))
      have hD : va_D A (mw cA cZ gm ak ac ab al av ah ap (fun _ => nI 0) (gFill fc (nI 0) k) (gFill fs (nI 0) k) fl fp fv ft (nI rn) (nI cn) sc) := va_D.set (p := 1) hD rfl
      have hP : va_P (dC, dI) vwCl (mw cA cZ gm ak ac ab al av ah ap (fun _ => nI 0) (fun _ => nI 0) (gFill fs (nI 0) k) fl fp fv ft (nI rn) (nI cn) sc) H := gz_setext hP 2 rfl (fun j hj => gFill_in fc (nI 0) k j (by omega))
      have hD : va_D A (mw cA cZ gm ak ac ab al av ah ap (fun _ => nI 0) (fun _ => nI 0) (gFill fs (nI 0) k) fl fp fv ft (nI rn) (nI cn) sc) := va_D.set (p := 2) hD rfl
      have hP : va_P (dC, dI) vwCl (mw cA cZ gm ak ac ab al av ah ap (fun _ => nI 0) (fun _ => nI 0) (fun _ => nI 0) fl fp fv ft (nI rn) (nI cn) sc) H := gz_setext hP 3 rfl (fun j hj => gFill_in fs (nI 0) k j (by omega))
      have hD : va_D A (mw cA cZ gm ak ac ab al av ah ap (fun _ => nI 0) (fun _ => nI 0) (fun _ => nI 0) fl fp fv ft (nI rn) (nI cn) sc) := va_D.set (p := 3) hD rfl
      refine lv_iconst (v := nI 0) hx hb dX1_begin_70 (by decide) ?_
      refine lv_istore_n (lv' := [(3, .int (nI 0)), (0, .ref gm), (1, .int (nI rn)), (2, .int (nI cn))]) hx hb dX1_begin_71 rfl hl (by decide) rfl (fun ls hl => ?_)
      exact loop2 156 0 (by omega) H locs hP hD hS ls (lv_sub hl [0, 1, 2, 3] rfl)
    | succ n ih =>
      intro k hk H locs hP hD hS ls hl
      refine lv_iload_n hx hb dX1_begin_36 rfl (lv_at hl 0 rfl) ?_
      refine lv_sipush (v := nI 144) hx hb dX1_begin_37 (by decide) ?_
      refine gz_icmp_ge (tgt := 70) (za := ((k : Nat) : Int)) (zb := ((144 : Nat) : Int)) hx hb dX1_begin_40 (by decide) (nI_toInt (by omega)) (nI_toInt (by omega)) (fun c_1 => False.elim (by omega)) (fun c_1 => ?_)
      refine lv_aload_n hx hb dX1_begin_43 rfl (lv_at hl 1 rfl) ?_
      refine va_get (D := (dC, dI)) (ci := 1) (v := .ref ak) (C := RX1) (T := TX1) (N := 10) hx hb hts hin1 hown hK hP 0 rfl rfl 2 (by decide) lk7 (fun _ h9 => h9) rfl dX1_begin_44 ?_
      refine lv_iload_n hx hb dX1_begin_47 rfl (lv_at hl 0 rfl) ?_
      refine lv_iconst (v := nI 0) hx hb dX1_begin_48 (by decide) ?_
      refine gz_iast (k := k) hx hb hK hP hD hS 1 0 rfl rfl (by omega) (by omega) dX1_begin_49 (fun H locs hP hD hS => ?_)
      have hP : va_P (dC, dI) vwCl (mw cA cZ gm ak ac ab al av ah ap (upd (gFill fk (nI 0) k) k (nI 0)) (gFill fc (nI 0) k) (gFill fs (nI 0) k) fl fp fv ft (nI rn) (nI cn) sc) H := hP
      have hD : va_D A (mw cA cZ gm ak ac ab al av ah ap (upd (gFill fk (nI 0) k) k (nI 0)) (gFill fc (nI 0) k) (gFill fs (nI 0) k) fl fp fv ft (nI rn) (nI cn) sc) := hD
      refine lv_aload_n hx hb dX1_begin_50 rfl (lv_at hl 1 rfl) ?_
      refine va_get (D := (dC, dI)) (ci := 1) (v := .ref ac) (C := RX1) (T := TX1) (N := 10) hx hb hts hin1 hown hK hP 0 rfl rfl 3 (by decide) lk13 (fun _ h9 => h9) rfl dX1_begin_51 ?_
      refine lv_iload_n hx hb dX1_begin_54 rfl (lv_at hl 0 rfl) ?_
      refine lv_iconst (v := nI 0) hx hb dX1_begin_55 (by decide) ?_
      refine gz_iast (k := k) hx hb hK hP hD hS 2 0 rfl rfl (by omega) (by omega) dX1_begin_56 (fun H locs hP hD hS => ?_)
      have hP : va_P (dC, dI) vwCl (mw cA cZ gm ak ac ab al av ah ap (upd (gFill fk (nI 0) k) k (nI 0)) (upd (gFill fc (nI 0) k) k (nI 0)) (gFill fs (nI 0) k) fl fp fv ft (nI rn) (nI cn) sc) H := hP
      have hD : va_D A (mw cA cZ gm ak ac ab al av ah ap (upd (gFill fk (nI 0) k) k (nI 0)) (upd (gFill fc (nI 0) k) k (nI 0)) (gFill fs (nI 0) k) fl fp fv ft (nI rn) (nI cn) sc) := hD
      refine lv_aload_n hx hb dX1_begin_57 rfl (lv_at hl 1 rfl) ?_
      refine va_get (D := (dC, dI)) (ci := 1) (v := .ref ab) (C := RX1) (T := TX1) (N := 10) hx hb hts hin1 hown hK hP 0 rfl rfl 4 (by decide) lk16 (fun _ h9 => h9) rfl dX1_begin_58 ?_
      refine lv_iload_n hx hb dX1_begin_61 rfl (lv_at hl 0 rfl) ?_
      refine lv_iconst (v := nI 0) hx hb dX1_begin_62 (by decide) ?_
      refine gz_iast (k := k) hx hb hK hP hD hS 3 0 rfl rfl (by omega) (by omega) dX1_begin_63 (fun H locs hP hD hS => ?_)
      have hP : va_P (dC, dI) vwCl (mw cA cZ gm ak ac ab al av ah ap (upd (gFill fk (nI 0) k) k (nI 0)) (upd (gFill fc (nI 0) k) k (nI 0)) (upd (gFill fs (nI 0) k) k (nI 0)) fl fp fv ft (nI rn) (nI cn) sc) H := hP
      have hD : va_D A (mw cA cZ gm ak ac ab al av ah ap (upd (gFill fk (nI 0) k) k (nI 0)) (upd (gFill fc (nI 0) k) k (nI 0)) (upd (gFill fs (nI 0) k) k (nI 0)) fl fp fv ft (nI rn) (nI cn) sc) := hD
      refine lv_iinc (v := nI (k + 1)) (lv' := [(3, .int (nI (k + 1))), (0, .ref gm), (1, .int (nI rn)), (2, .int (nI cn))]) hx hb dX1_begin_64 hl (k := 0) rfl (nI_1 _) (by decide) rfl (fun ls hl => ?_)
      refine lv_goto (tgt := 36) hx hb dX1_begin_67 (by decide) ?_
      exact ih (k + 1) (by omega) H locs hP hD hS ls (lv_sub hl [0, 1, 2, 3] rfl)
  refine lv_iload_n hx hb dX1_begin_0 rfl (lv_at hl 1 rfl) ?_
  refine lv_iconst (v := nI 1) hx hb dX1_begin_1 (by decide) ?_
  refine gz_icmp_lt (tgt := 22) (za := ((rn : Nat) : Int)) (zb := ((1 : Nat) : Int)) hx hb dX1_begin_2 (by decide) (nI_toInt (by omega)) (nI_toInt (by omega)) (fun c_1 => False.elim (by omega)) (fun c_1 => ?_)
  refine lv_iload_n hx hb dX1_begin_5 rfl (lv_at hl 1 rfl) ?_
  refine lv_bipush (v := nI 12) hx hb dX1_begin_6 (by decide) ?_
  refine gz_icmp_gt (tgt := 22) (za := ((rn : Nat) : Int)) (zb := ((12 : Nat) : Int)) hx hb dX1_begin_8 (by decide) (nI_toInt (by omega)) (nI_toInt (by omega)) (fun c_2 => False.elim (by omega)) (fun c_2 => ?_)
  refine lv_iload_n hx hb dX1_begin_11 rfl (lv_at hl 2 rfl) ?_
  refine lv_iconst (v := nI 1) hx hb dX1_begin_12 (by decide) ?_
  refine gz_icmp_lt (tgt := 22) (za := ((cn : Nat) : Int)) (zb := ((1 : Nat) : Int)) hx hb dX1_begin_13 (by decide) (nI_toInt (by omega)) (nI_toInt (by omega)) (fun c_3 => False.elim (by omega)) (fun c_3 => ?_)
  refine lv_iload_n hx hb dX1_begin_16 rfl (lv_at hl 2 rfl) ?_
  refine lv_bipush (v := nI 12) hx hb dX1_begin_17 (by decide) ?_
  refine gz_icmp_le (tgt := 24) (za := ((cn : Nat) : Int)) (zb := ((12 : Nat) : Int)) hx hb dX1_begin_19 (by decide) (nI_toInt (by omega)) (nI_toInt (by omega)) (fun c_4 => ?_) (fun c_4 => False.elim (by omega))
  refine lv_aload_n hx hb dX1_begin_24 rfl (lv_at hl 0 rfl) ?_
  refine lv_iload_n hx hb dX1_begin_25 rfl (lv_at hl 1 rfl) ?_
  refine va_put (D := (dC, dI)) (ci := 1) (v := .int (nI rn)) (ty := .int) (C := RX1) (T := TX1) (N := 10) hx hb hts hin1 tyX1 tyX1_ok nmX1 hown hK hP hD hS 0 rfl rfl 0 (by decide) lk36 (fun _ h9 => h9) rfl (by decide +kernel) rfl rfl (Nat.le_of_ble_eq_true rfl) dX1_begin_26 (fun H locs hP hD hS => ?_)
  have hP : va_P (dC, dI) vwCl (mw cA cZ gm ak ac ab al av ah ap fk fc fs fl fp fv ft (nI rn) c0 sc) H := hP
  have hD : va_D A (mw cA cZ gm ak ac ab al av ah ap fk fc fs fl fp fv ft (nI rn) c0 sc) := hD
  refine lv_aload_n hx hb dX1_begin_29 rfl (lv_at hl 0 rfl) ?_
  refine lv_iload_n hx hb dX1_begin_30 rfl (lv_at hl 2 rfl) ?_
  refine va_put (D := (dC, dI)) (ci := 1) (v := .int (nI cn)) (ty := .int) (C := RX1) (T := TX1) (N := 10) hx hb hts hin1 tyX1 tyX1_ok nmX1 hown hK hP hD hS 0 rfl rfl 1 (by decide) lk40 (fun _ h9 => h9) rfl (by decide +kernel) rfl rfl (Nat.le_of_ble_eq_true rfl) dX1_begin_31 (fun H locs hP hD hS => ?_)
  have hP : va_P (dC, dI) vwCl (mw cA cZ gm ak ac ab al av ah ap fk fc fs fl fp fv ft (nI rn) (nI cn) sc) H := hP
  have hD : va_D A (mw cA cZ gm ak ac ab al av ah ap fk fc fs fl fp fv ft (nI rn) (nI cn) sc) := hD
  refine lv_iconst (v := nI 0) hx hb dX1_begin_34 (by decide) ?_
  refine lv_istore_n (lv' := [(3, .int (nI 0)), (0, .ref gm), (1, .int (nI rn)), (2, .int (nI cn))]) hx hb dX1_begin_35 rfl hl (by decide) rfl (fun ls hl => ?_)
  exact loop1 144 0 (by omega) H locs hP hD hS ls (lv_sub hl [0, 1, 2, 3] rfl)
set_option maxHeartbeats 4000000 in
set_option maxRecDepth 100000 in
theorem cM_link (l : Launch) (dC : Nat → ClassId) (dI : Nat → Nat → Nat) (sz : Nat) (cA cZ : ClassId) (gm ak ac ab al av ah ap : Nat) (fk fc fs fl fp fv ft : Nat → Int32) (rn cn : Nat) (sc : Int32) (i j : Nat) (b : Int32) (hrn : 1 ≤ rn ∧ rn ≤ 12) (hcn : 1 ≤ cn ∧ cn ≤ 12) (hi : i + 1 < rn) (hj : 1 ≤ j ∧ j < cn) (hb01 : b = nI 0 ∨ b = nI 1) (hfl : g01 156 fl) : Met l yX1_link wsX1_link ({ frames := 0, cells := 0, slots := 0, locals := 0 }) (gPw (dC, dI) vwCl [(cA, .int), (cZ, .boolean)] [.ref gm, .int (nI i), .int (nI j), .int b] sz (mw cA cZ gm ak ac ab al av ah ap fk fc fs fl fp fv ft (nI rn) (nI cn) sc)) (gQA (dC, dI) vwCl [(cA, .int), (cZ, .boolean)] (fl (i * 13 + j)) (va_A (mw cA cZ gm ak ac ab al av ah ap fk fc fs fl fp fv ft (nI rn) (nI cn) sc) sz) (mw cA cZ gm ak ac ab al av ah ap fk fc fs (upd fl (i * 13 + j) b) fp fv ft (nI rn) (nI cn) (nI 0))) 0 0 (va_A (mw cA cZ gm ak ac ab al av ah ap fk fc fs fl fp fv ft (nI rn) (nI cn) sc) sz) := by
  refine Met.ofW (cc := cX1_link) (maxL := 6) (ret := (some .int)) (by decide) rfl ?_
  intro p e s m args below meth c s₁ B hml hv
  obtain ⟨rfl, hsz, hP, hK, hD0⟩ := hv
  have hx := B.exec
  have hb := B.bytes
  have hr := B.returns
  have hts := atoms_spec (ws := wsX1_link) B.pre
  have hown : s.vm.findClass RX1 = some m.cls := findClass_of_methodNamed B.named
  have hlocks := B.notSynchronized
  subst hsz
  have hD := hD0.self (sz := s.heap.size)
  generalize hAe : va_A (mw cA cZ gm ak ac ab al av ah ap fk fc fs fl fp fv ft (nI rn) (nI cn) sc) s.heap.size = A at hD ⊢
  have hA : ∀ q : Nat, s.heap.size ≤ q → A q := fun q h => by rw [← hAe]; exact Or.inr h
  have hS : va_S A s.heap s.heap [] := va_S.rf
  have hin1 : ∀ w ∈ u_ws RX1 TX1 10, w ∈ wsX1_link := by decide +kernel
  have lk36 := hts (.fieldLink RX1 36 "LadderGridModel" "rows" "I") (by decide +kernel)
  have lk40 := hts (.fieldLink RX1 40 "LadderGridModel" "columns" "I") (by decide +kernel)
  have lk19 := hts (.fieldLink RX1 19 "LadderGridModel" "isLinked" "[Z") (by decide +kernel)
  have lk43 := hts (.fieldLink RX1 43 "LadderGridModel" "isScanned" "Z") (by decide +kernel)
  have hl := lv_entry ([.ref gm, .int (nI i), .int (nI j), .int b]) (n := 6) (Nat.le_of_ble_eq_true rfl)
  rw [lg_entry_eq]
  generalize (lg_sl ([.ref gm, .int (nI i), .int (nI j), .int b]) ++ List.replicate (6 - (lg_sl ([.ref gm, .int (nI i), .int (nI j), .int b])).length) Slot.unset).toArray = ls at hl ⊢
  have hl : lv_has ls 6 [(0, .ref gm), (1, .int (nI i)), (2, .int (nI j)), (3, .int (b))] := hl
  suffices key : ∀ (H : Heap) (locs : List Loc), va_P (dC, dI) vwCl (mw cA cZ gm ak ac ab al av ah ap fk fc fs fl fp fv ft (nI rn) (nI cn) sc) H → va_D A (mw cA cZ gm ak ac ab al av ah ap fk fc fs fl fp fv ft (nI rn) (nI cn) sc) → va_S A s.heap H locs → W p l e (headSpec wsX1_link ({ frames := 0, cells := 0, slots := 0, locals := 0 })).room s m ([.ref gm, .int (nI i), .int (nI j), .int b] : List Value).toArray below meth c H locs 0 0 (MQ below (gQA (dC, dI) vwCl [(cA, .int), (cZ, .boolean)] (fl (i * 13 + j)) A (mw cA cZ gm ak ac ab al av ah ap fk fc fs (upd fl (i * 13 + j) b) fp fv ft (nI rn) (nI cn) (nI 0))) ([.ref gm, .int (nI i), .int (nI j), .int b] : List Value).toArray s 0 0 A) (F0 m 0 ls []) from key s.heap [] hP hD hS
  clear hP hD hS
  intro H locs hP hD hS
  have hnar : vp_nar .boolean b = b := by rcases hb01 with hb0 | hb0 <;> subst hb0 <;> decide
  rcases hfl (i * 13 + j) (by omega) with hf | hf
  · skip
    refine lv_iload_n hx hb dX1_link_0 rfl (lv_at hl 1 rfl) ?_
    refine gz_if_lt (tgt := 27) (za := ((i : Nat) : Int)) hx hb dX1_link_1 (by decide) (nI_toInt (by omega)) (fun c_1 => False.elim (by omega)) (fun c_1 => ?_)
    refine lv_iload_n hx hb dX1_link_4 rfl (lv_at hl 1 rfl) ?_
    refine lv_aload_n hx hb dX1_link_5 rfl (lv_at hl 0 rfl) ?_
    refine va_get (D := (dC, dI)) (ci := 1) (v := .int (nI rn)) (C := RX1) (T := TX1) (N := 10) hx hb hts hin1 hown hK hP 0 rfl rfl 0 (by decide) lk36 (fun _ h9 => h9) rfl dX1_link_6 ?_
    refine lv_iconst (v := nI 1) hx hb dX1_link_9 (by decide) ?_
    refine gz_isub (i := rn) (j := 1) hx hb dX1_link_10 (by omega) ?_
    refine gz_icmp_ge (tgt := 27) (za := ((i : Nat) : Int)) (zb := ((rn - 1 : Nat) : Int)) hx hb dX1_link_11 (by decide) (nI_toInt (by omega)) (nI_toInt (by omega)) (fun c_2 => False.elim (by omega)) (fun c_2 => ?_)
    refine lv_iload_n hx hb dX1_link_14 rfl (lv_at hl 2 rfl) ?_
    refine lv_iconst (v := nI 1) hx hb dX1_link_15 (by decide) ?_
    refine gz_icmp_lt (tgt := 27) (za := ((j : Nat) : Int)) (zb := ((1 : Nat) : Int)) hx hb dX1_link_16 (by decide) (nI_toInt (by omega)) (nI_toInt (by omega)) (fun c_3 => False.elim (by omega)) (fun c_3 => ?_)
    refine lv_iload_n hx hb dX1_link_19 rfl (lv_at hl 2 rfl) ?_
    refine lv_aload_n hx hb dX1_link_20 rfl (lv_at hl 0 rfl) ?_
    refine va_get (D := (dC, dI)) (ci := 1) (v := .int (nI cn)) (C := RX1) (T := TX1) (N := 10) hx hb hts hin1 hown hK hP 0 rfl rfl 1 (by decide) lk40 (fun _ h9 => h9) rfl dX1_link_21 ?_
    refine gz_icmp_lt (tgt := 29) (za := ((j : Nat) : Int)) (zb := ((cn : Nat) : Int)) hx hb dX1_link_24 (by decide) (nI_toInt (by omega)) (nI_toInt (by omega)) (fun c_4 => ?_) (fun c_4 => False.elim (by omega))
    refine lv_bipush (v := nI 13) hx hb dX1_link_29 (by decide) ?_
    refine lv_iload_n hx hb dX1_link_31 rfl (lv_at hl 1 rfl) ?_
    refine gz_imulc (i := 13) (j := i) hx hb dX1_link_32 ?_
    refine lv_iload_n hx hb dX1_link_33 rfl (lv_at hl 2 rfl) ?_
    refine gz_iadd (i := i * 13) (j := j) hx hb dX1_link_34 ?_
    refine lv_istore (lv' := [(4, .int (nI ((i * 13) + j))), (0, .ref gm), (1, .int (nI i)), (2, .int (nI j)), (3, .int (b))]) hx hb dX1_link_35 hl (by decide) rfl (fun ls hl => ?_)
    refine lv_aload_n hx hb dX1_link_37 rfl (lv_at hl 1 rfl) ?_
    refine va_get (D := (dC, dI)) (ci := 1) (v := .ref al) (C := RX1) (T := TX1) (N := 10) hx hb hts hin1 hown hK hP 0 rfl rfl 5 (by decide) lk19 (fun _ h9 => h9) rfl dX1_link_38 ?_
    refine lv_iload hx hb dX1_link_41 (lv_at hl 0 rfl) ?_
    refine gz_zald (k := (i * 13) + j) hx hb hK hP 4 1 rfl rfl (by omega) (by omega) dX1_link_43 ?_
    refine lv_istore (lv' := [(5, .int (fl ((i * 13) + j))), (4, .int (nI ((i * 13) + j))), (0, .ref gm), (1, .int (nI i)), (2, .int (nI j)), (3, .int (b))]) hx hb dX1_link_44 hl (by decide) rfl (fun ls hl => ?_)
    refine lv_aload_n hx hb dX1_link_46 rfl (lv_at hl 2 rfl) ?_
    refine va_get (D := (dC, dI)) (ci := 1) (v := .ref al) (C := RX1) (T := TX1) (N := 10) hx hb hts hin1 hown hK hP 0 rfl rfl 5 (by decide) lk19 (fun _ h9 => h9) rfl dX1_link_47 ?_
    refine lv_iload hx hb dX1_link_50 (lv_at hl 1 rfl) ?_
    refine lv_iload_n hx hb dX1_link_52 rfl (lv_at hl 5 rfl) ?_
    refine gz_zast (k := (i * 13) + j) hx hb hK hP hD hS 4 1 rfl rfl hnar (by omega) (by omega) dX1_link_53 (fun H locs hP hD hS => ?_)
    have hP : va_P (dC, dI) vwCl (mw cA cZ gm ak ac ab al av ah ap fk fc fs (upd fl ((i * 13) + j) b) fp fv ft (nI rn) (nI cn) sc) H := hP
    have hD : va_D A (mw cA cZ gm ak ac ab al av ah ap fk fc fs (upd fl ((i * 13) + j) b) fp fv ft (nI rn) (nI cn) sc) := hD
    refine lv_aload_n hx hb dX1_link_54 rfl (lv_at hl 2 rfl) ?_
    refine lv_iconst (v := nI 0) hx hb dX1_link_55 (by decide) ?_
    refine va_put (D := (dC, dI)) (ci := 1) (v := .int (nI 0)) (ty := .boolean) (C := RX1) (T := TX1) (N := 10) hx hb hts hin1 tyX1 tyX1_ok nmX1 hown hK hP hD hS 0 rfl rfl 9 (by decide) lk43 (fun _ h9 => h9) rfl (by decide +kernel) rfl rfl (Nat.le_of_ble_eq_true rfl) dX1_link_56 (fun H locs hP hD hS => ?_)
    have hP : va_P (dC, dI) vwCl (mw cA cZ gm ak ac ab al av ah ap fk fc fs (upd fl ((i * 13) + j) b) fp fv ft (nI rn) (nI cn) (nI 0)) H := hP
    have hD : va_D A (mw cA cZ gm ak ac ab al av ah ap fk fc fs (upd fl ((i * 13) + j) b) fp fv ft (nI rn) (nI cn) (nI 0)) := hD
    refine lv_iload hx hb dX1_link_59 (lv_at hl 0 rfl) ?_
    refine lv_if_eq (tgt := 68) hx hb dX1_link_61 (by decide) (fun c_5 => ?_) (fun c_5 => False.elim (c_5 hf))
    refine lv_iconst (v := nI 0) hx hb dX1_link_68 (by decide) ?_
    exact W.iret (v := nI 0) hx hb hr (fun t ht hW => ⟨⟨nI 0, (), rfl, hf.symm, by rw [ht]; exact hP, va_K.moved hW.alike hK, hD⟩, hS.F ht⟩) hS.2.2 dX1_link_69
  · skip
    refine lv_iload_n hx hb dX1_link_0 rfl (lv_at hl 1 rfl) ?_
    refine gz_if_lt (tgt := 27) (za := ((i : Nat) : Int)) hx hb dX1_link_1 (by decide) (nI_toInt (by omega)) (fun c_1 => False.elim (by omega)) (fun c_1 => ?_)
    refine lv_iload_n hx hb dX1_link_4 rfl (lv_at hl 1 rfl) ?_
    refine lv_aload_n hx hb dX1_link_5 rfl (lv_at hl 0 rfl) ?_
    refine va_get (D := (dC, dI)) (ci := 1) (v := .int (nI rn)) (C := RX1) (T := TX1) (N := 10) hx hb hts hin1 hown hK hP 0 rfl rfl 0 (by decide) lk36 (fun _ h9 => h9) rfl dX1_link_6 ?_
    refine lv_iconst (v := nI 1) hx hb dX1_link_9 (by decide) ?_
    refine gz_isub (i := rn) (j := 1) hx hb dX1_link_10 (by omega) ?_
    refine gz_icmp_ge (tgt := 27) (za := ((i : Nat) : Int)) (zb := ((rn - 1 : Nat) : Int)) hx hb dX1_link_11 (by decide) (nI_toInt (by omega)) (nI_toInt (by omega)) (fun c_2 => False.elim (by omega)) (fun c_2 => ?_)
    refine lv_iload_n hx hb dX1_link_14 rfl (lv_at hl 2 rfl) ?_
    refine lv_iconst (v := nI 1) hx hb dX1_link_15 (by decide) ?_
    refine gz_icmp_lt (tgt := 27) (za := ((j : Nat) : Int)) (zb := ((1 : Nat) : Int)) hx hb dX1_link_16 (by decide) (nI_toInt (by omega)) (nI_toInt (by omega)) (fun c_3 => False.elim (by omega)) (fun c_3 => ?_)
    refine lv_iload_n hx hb dX1_link_19 rfl (lv_at hl 2 rfl) ?_
    refine lv_aload_n hx hb dX1_link_20 rfl (lv_at hl 0 rfl) ?_
    refine va_get (D := (dC, dI)) (ci := 1) (v := .int (nI cn)) (C := RX1) (T := TX1) (N := 10) hx hb hts hin1 hown hK hP 0 rfl rfl 1 (by decide) lk40 (fun _ h9 => h9) rfl dX1_link_21 ?_
    refine gz_icmp_lt (tgt := 29) (za := ((j : Nat) : Int)) (zb := ((cn : Nat) : Int)) hx hb dX1_link_24 (by decide) (nI_toInt (by omega)) (nI_toInt (by omega)) (fun c_4 => ?_) (fun c_4 => False.elim (by omega))
    refine lv_bipush (v := nI 13) hx hb dX1_link_29 (by decide) ?_
    refine lv_iload_n hx hb dX1_link_31 rfl (lv_at hl 1 rfl) ?_
    refine gz_imulc (i := 13) (j := i) hx hb dX1_link_32 ?_
    refine lv_iload_n hx hb dX1_link_33 rfl (lv_at hl 2 rfl) ?_
    refine gz_iadd (i := i * 13) (j := j) hx hb dX1_link_34 ?_
    refine lv_istore (lv' := [(4, .int (nI ((i * 13) + j))), (0, .ref gm), (1, .int (nI i)), (2, .int (nI j)), (3, .int (b))]) hx hb dX1_link_35 hl (by decide) rfl (fun ls hl => ?_)
    refine lv_aload_n hx hb dX1_link_37 rfl (lv_at hl 1 rfl) ?_
    refine va_get (D := (dC, dI)) (ci := 1) (v := .ref al) (C := RX1) (T := TX1) (N := 10) hx hb hts hin1 hown hK hP 0 rfl rfl 5 (by decide) lk19 (fun _ h9 => h9) rfl dX1_link_38 ?_
    refine lv_iload hx hb dX1_link_41 (lv_at hl 0 rfl) ?_
    refine gz_zald (k := (i * 13) + j) hx hb hK hP 4 1 rfl rfl (by omega) (by omega) dX1_link_43 ?_
    refine lv_istore (lv' := [(5, .int (fl ((i * 13) + j))), (4, .int (nI ((i * 13) + j))), (0, .ref gm), (1, .int (nI i)), (2, .int (nI j)), (3, .int (b))]) hx hb dX1_link_44 hl (by decide) rfl (fun ls hl => ?_)
    refine lv_aload_n hx hb dX1_link_46 rfl (lv_at hl 2 rfl) ?_
    refine va_get (D := (dC, dI)) (ci := 1) (v := .ref al) (C := RX1) (T := TX1) (N := 10) hx hb hts hin1 hown hK hP 0 rfl rfl 5 (by decide) lk19 (fun _ h9 => h9) rfl dX1_link_47 ?_
    refine lv_iload hx hb dX1_link_50 (lv_at hl 1 rfl) ?_
    refine lv_iload_n hx hb dX1_link_52 rfl (lv_at hl 5 rfl) ?_
    refine gz_zast (k := (i * 13) + j) hx hb hK hP hD hS 4 1 rfl rfl hnar (by omega) (by omega) dX1_link_53 (fun H locs hP hD hS => ?_)
    have hP : va_P (dC, dI) vwCl (mw cA cZ gm ak ac ab al av ah ap fk fc fs (upd fl ((i * 13) + j) b) fp fv ft (nI rn) (nI cn) sc) H := hP
    have hD : va_D A (mw cA cZ gm ak ac ab al av ah ap fk fc fs (upd fl ((i * 13) + j) b) fp fv ft (nI rn) (nI cn) sc) := hD
    refine lv_aload_n hx hb dX1_link_54 rfl (lv_at hl 2 rfl) ?_
    refine lv_iconst (v := nI 0) hx hb dX1_link_55 (by decide) ?_
    refine va_put (D := (dC, dI)) (ci := 1) (v := .int (nI 0)) (ty := .boolean) (C := RX1) (T := TX1) (N := 10) hx hb hts hin1 tyX1 tyX1_ok nmX1 hown hK hP hD hS 0 rfl rfl 9 (by decide) lk43 (fun _ h9 => h9) rfl (by decide +kernel) rfl rfl (Nat.le_of_ble_eq_true rfl) dX1_link_56 (fun H locs hP hD hS => ?_)
    have hP : va_P (dC, dI) vwCl (mw cA cZ gm ak ac ab al av ah ap fk fc fs (upd fl ((i * 13) + j) b) fp fv ft (nI rn) (nI cn) (nI 0)) H := hP
    have hD : va_D A (mw cA cZ gm ak ac ab al av ah ap fk fc fs (upd fl ((i * 13) + j) b) fp fv ft (nI rn) (nI cn) (nI 0)) := hD
    refine lv_iload hx hb dX1_link_59 (lv_at hl 0 rfl) ?_
    refine lv_if_eq (tgt := 68) hx hb dX1_link_61 (by decide) (fun c_5 => False.elim (absurd (hf.symm.trans c_5) (by decide))) (fun c_5 => ?_)
    refine lv_iconst (v := nI 1) hx hb dX1_link_64 (by decide) ?_
    refine lv_goto (tgt := 69) hx hb dX1_link_65 (by decide) ?_
    exact W.iret (v := nI 1) hx hb hr (fun t ht hW => ⟨⟨nI 1, (), rfl, hf.symm, by rw [ht]; exact hP, va_K.moved hW.alike hK, hD⟩, hS.F ht⟩) hS.2.2 dX1_link_69
set_option maxHeartbeats 4000000 in
set_option maxRecDepth 100000 in
theorem cM_link_bad (l : Launch) (dC : Nat → ClassId) (dI : Nat → Nat → Nat) (cA cZ : ClassId) (gm ak ac ab al av ah ap : Nat) (fk fc fs fl fp fv ft : Nat → Int32) (rn cn : Nat) (sc : Int32) (x y b : Int32) (hrn : 1 ≤ rn ∧ rn ≤ 12) (hcn : 1 ≤ cn ∧ cn ≤ 12) (hx0 : ¬ (0 ≤ x.toInt ∧ x.toInt + 1 < (rn : Int) ∧ 1 ≤ y.toInt ∧ y.toInt < (cn : Int))) : Met l yX1_link wsX1_link ({ frames := 0, cells := 0, slots := 0, locals := 0 }) (gPr (dC, dI) vwCl [(cA, .int), (cZ, .boolean)] [.ref gm, .int x, .int y, .int b] (mw cA cZ gm ak ac ab al av ah ap fk fc fs fl fp fv ft (nI rn) (nI cn) sc)) (QcRead (-1)) 0 0 (fun _ => False) := by
  refine Met.ofW (cc := cX1_link) (maxL := 6) (ret := (some .int)) (by decide) rfl ?_
  intro p e s m args below meth c s₁ B hml hv
  obtain ⟨rfl, hP, hK⟩ := hv
  have hx := B.exec
  have hb := B.bytes
  have hr := B.returns
  have hts := atoms_spec (ws := wsX1_link) B.pre
  have hown : s.vm.findClass RX1 = some m.cls := findClass_of_methodNamed B.named
  have hlocks := B.notSynchronized
  have hin1 : ∀ w ∈ u_ws RX1 TX1 10, w ∈ wsX1_link := by decide +kernel
  have lk36 := hts (.fieldLink RX1 36 "LadderGridModel" "rows" "I") (by decide +kernel)
  have lk40 := hts (.fieldLink RX1 40 "LadderGridModel" "columns" "I") (by decide +kernel)
  have lk19 := hts (.fieldLink RX1 19 "LadderGridModel" "isLinked" "[Z") (by decide +kernel)
  have lk43 := hts (.fieldLink RX1 43 "LadderGridModel" "isScanned" "Z") (by decide +kernel)
  have hl := lv_entry ([.ref gm, .int x, .int y, .int b]) (n := 6) (Nat.le_of_ble_eq_true rfl)
  rw [lg_entry_eq]
  generalize (lg_sl ([.ref gm, .int x, .int y, .int b]) ++ List.replicate (6 - (lg_sl ([.ref gm, .int x, .int y, .int b])).length) Slot.unset).toArray = ls at hl ⊢
  have hl : lv_has ls 6 [(0, .ref gm), (1, .int (x)), (2, .int (y)), (3, .int (b))] := hl
  refine lv_iload_n hx hb dX1_link_0 rfl (lv_at hl 1 rfl) ?_
  refine gz_if_lt (tgt := 27) (za := x.toInt) hx hb dX1_link_1 (by decide) rfl (fun c_1 => ?_) (fun c_1 => ?_)
  · skip
    refine lv_iconst (v := (-1)) hx hb dX1_link_27 (by decide) ?_
    exact W.iret (v := (-1)) hx hb hr (fun t ht hW => ⟨rfl, ht⟩) (fun q h => absurd h List.not_mem_nil) dX1_link_28
  · skip
    refine lv_iload_n hx hb dX1_link_4 rfl (lv_at hl 1 rfl) ?_
    refine lv_aload_n hx hb dX1_link_5 rfl (lv_at hl 0 rfl) ?_
    refine va_get (D := (dC, dI)) (ci := 1) (v := .int (nI rn)) (C := RX1) (T := TX1) (N := 10) hx hb hts hin1 hown hK hP 0 rfl rfl 0 (by decide) lk36 (fun _ h9 => h9) rfl dX1_link_6 ?_
    refine lv_iconst (v := nI 1) hx hb dX1_link_9 (by decide) ?_
    refine gz_isub (i := rn) (j := 1) hx hb dX1_link_10 (by omega) ?_
    refine gz_icmp_ge (tgt := 27) (za := x.toInt) (zb := ((rn - 1 : Nat) : Int)) hx hb dX1_link_11 (by decide) rfl (nI_toInt (by omega)) (fun c_2 => ?_) (fun c_2 => ?_)
    · skip
      refine lv_iconst (v := (-1)) hx hb dX1_link_27 (by decide) ?_
      exact W.iret (v := (-1)) hx hb hr (fun t ht hW => ⟨rfl, ht⟩) (fun q h => absurd h List.not_mem_nil) dX1_link_28
    · skip
      refine lv_iload_n hx hb dX1_link_14 rfl (lv_at hl 2 rfl) ?_
      refine lv_iconst (v := nI 1) hx hb dX1_link_15 (by decide) ?_
      refine gz_icmp_lt (tgt := 27) (za := y.toInt) (zb := ((1 : Nat) : Int)) hx hb dX1_link_16 (by decide) rfl (nI_toInt (by omega)) (fun c_3 => ?_) (fun c_3 => ?_)
      · skip
        refine lv_iconst (v := (-1)) hx hb dX1_link_27 (by decide) ?_
        exact W.iret (v := (-1)) hx hb hr (fun t ht hW => ⟨rfl, ht⟩) (fun q h => absurd h List.not_mem_nil) dX1_link_28
      · skip
        refine lv_iload_n hx hb dX1_link_19 rfl (lv_at hl 2 rfl) ?_
        refine lv_aload_n hx hb dX1_link_20 rfl (lv_at hl 0 rfl) ?_
        refine va_get (D := (dC, dI)) (ci := 1) (v := .int (nI cn)) (C := RX1) (T := TX1) (N := 10) hx hb hts hin1 hown hK hP 0 rfl rfl 1 (by decide) lk40 (fun _ h9 => h9) rfl dX1_link_21 ?_
        refine gz_icmp_lt (tgt := 29) (za := y.toInt) (zb := ((cn : Nat) : Int)) hx hb dX1_link_24 (by decide) rfl (nI_toInt (by omega)) (fun c_4 => False.elim (by omega)) (fun c_4 => ?_)
        refine lv_iconst (v := (-1)) hx hb dX1_link_27 (by decide) ?_
        exact W.iret (v := (-1)) hx hb hr (fun t ht hW => ⟨rfl, ht⟩) (fun q h => absurd h List.not_mem_nil) dX1_link_28
set_option maxHeartbeats 4000000 in
set_option maxRecDepth 100000 in
theorem cM_cell (l : Launch) (dC : Nat → ClassId) (dI : Nat → Nat → Nat) (sz : Nat) (cA cZ : ClassId) (gm ak ac ab al av ah ap : Nat) (fk fc fs fl fp fv ft : Nat → Int32) (rn cn : Nat) (sc : Int32) (i j k : Nat) (x : Int32) (hrn : 1 ≤ rn ∧ rn ≤ 12) (hcn : 1 ≤ cn ∧ cn ≤ 12) (hi : i < rn) (hj : j < cn) (hk : k ≤ 9) (hx2 : k < 2 ∨ (0 ≤ x.toInt ∧ x.toInt < 40)) (hk6 : k < 6 ∨ j + 1 = cn) : Met l yX1_cell wsX1_cell ({ frames := 1, cells := 0, slots := 0, locals := 22 }) (gPw (dC, dI) vwCl [(cA, .int), (cZ, .boolean)] [.ref gm, .int (nI i), .int (nI j), .int (nI k), .int x] sz (mw cA cZ gm ak ac ab al av ah ap fk fc fs fl fp fv ft (nI rn) (nI cn) sc)) (gQA (dC, dI) vwCl [(cA, .int), (cZ, .boolean)] (fk (i * 12 + j)) (va_A (mw cA cZ gm ak ac ab al av ah ap fk fc fs fl fp fv ft (nI rn) (nI cn) sc) sz) (mw cA cZ gm ak ac ab al av ah ap (upd fk (i * 12 + j) (nI k)) (upd fc (i * 12 + j) (if 2 ≤ k then x else nI 0)) (upd fs (i * 12 + j) (nI 0)) fl fp fv ft (nI rn) (nI cn) (nI 0))) 0 0 (va_A (mw cA cZ gm ak ac ab al av ah ap fk fc fs fl fp fv ft (nI rn) (nI cn) sc) sz) := by
  refine Met.ofW (cc := cX1_cell) (maxL := 7) (ret := (some .int)) (by decide) rfl ?_
  intro p e s m args below meth c s₁ B hml hv
  obtain ⟨rfl, hsz, hP, hK, hD0⟩ := hv
  have hx := B.exec
  have hb := B.bytes
  have hr := B.returns
  have hts := atoms_spec (ws := wsX1_cell) B.pre
  have hown : s.vm.findClass RX1 = some m.cls := findClass_of_methodNamed B.named
  have hlocks := B.notSynchronized
  subst hsz
  have hD := hD0.self (sz := s.heap.size)
  generalize hAe : va_A (mw cA cZ gm ak ac ab al av ah ap fk fc fs fl fp fv ft (nI rn) (nI cn) sc) s.heap.size = A at hD ⊢
  have hA : ∀ q : Nat, s.heap.size ≤ q → A q := fun q h => by rw [← hAe]; exact Or.inr h
  have hS : va_S A s.heap s.heap [] := va_S.rf
  have hin1 : ∀ w ∈ u_ws RX1 TX1 10, w ∈ wsX1_cell := by decide +kernel
  have lk40 := hts (.fieldLink RX1 40 "LadderGridModel" "columns" "I") (by decide +kernel)
  have lk7 := hts (.fieldLink RX1 7 "LadderGridModel" "kinds" "[I") (by decide +kernel)
  have lk13 := hts (.fieldLink RX1 13 "LadderGridModel" "variables" "[I") (by decide +kernel)
  have lk16 := hts (.fieldLink RX1 16 "LadderGridModel" "before" "[I") (by decide +kernel)
  have lk43 := hts (.fieldLink RX1 43 "LadderGridModel" "isScanned" "Z") (by decide +kernel)
  have hl := lv_entry ([.ref gm, .int (nI i), .int (nI j), .int (nI k), .int x]) (n := 7) (Nat.le_of_ble_eq_true rfl)
  rw [lg_entry_eq]
  generalize (lg_sl ([.ref gm, .int (nI i), .int (nI j), .int (nI k), .int x]) ++ List.replicate (7 - (lg_sl ([.ref gm, .int (nI i), .int (nI j), .int (nI k), .int x])).length) Slot.unset).toArray = ls at hl ⊢
  have hl : lv_has ls 7 [(0, .ref gm), (1, .int (nI i)), (2, .int (nI j)), (3, .int (nI k)), (4, .int (x))] := hl
  have zi := nI_toInt (n := i) (by omega)
  have zj := nI_toInt (n := j) (by omega)
  have zk := nI_toInt (n := k) (by omega)
  suffices key : ∀ (H : Heap) (locs : List Loc), va_P (dC, dI) vwCl (mw cA cZ gm ak ac ab al av ah ap fk fc fs fl fp fv ft (nI rn) (nI cn) sc) H → va_D A (mw cA cZ gm ak ac ab al av ah ap fk fc fs fl fp fv ft (nI rn) (nI cn) sc) → va_S A s.heap H locs → W p l e (headSpec wsX1_cell ({ frames := 1, cells := 0, slots := 0, locals := 22 })).room s m ([.ref gm, .int (nI i), .int (nI j), .int (nI k), .int x] : List Value).toArray below meth c H locs 0 0 (MQ below (gQA (dC, dI) vwCl [(cA, .int), (cZ, .boolean)] (fk (i * 12 + j)) A (mw cA cZ gm ak ac ab al av ah ap (upd fk (i * 12 + j) (nI k)) (upd fc (i * 12 + j) (if 2 ≤ k then x else nI 0)) (upd fs (i * 12 + j) (nI 0)) fl fp fv ft (nI rn) (nI cn) (nI 0))) ([.ref gm, .int (nI i), .int (nI j), .int (nI k), .int x] : List Value).toArray s 0 0 A) (F0 m 0 ls []) from key s.heap [] hP hD hS
  clear hP hD hS
  intro H locs hP hD hS
  by_cases hk2 : 2 ≤ k
  · by_cases hk5 : 6 ≤ k
    · skip
      refine lv_aload_n hx hb dX1_cell_0 rfl (lv_at hl 0 rfl) ?_
      refine lv_iload_n hx hb dX1_cell_1 rfl (lv_at hl 1 rfl) ?_
      refine lv_iload_n hx hb dX1_cell_2 rfl (lv_at hl 2 rfl) ?_
      refine gz_callR (W.runV (As := [.int (nI i), .int (nI j)]) (rest := []) ⟨hx, hb, hml, hown, hts⟩ (cM_isCell l dC dI cA cZ gm ak ac ab al av ah ap fk fc fs fl fp fv ft rn cn sc (nI i) (nI j) hrn hcn) (cwV 2 hts gX1_cell_X1_isCell rfl rfl rfl (by decide +kernel) ⟨Nat.le_of_ble_eq_true rfl, Nat.le_of_ble_eq_true rfl⟩) (gz_preV (q := (RX1, TX1, 10)) (ci := 1) hK hP [0, 1, 2, 3, 4, 5, 6, 7] rfl rfl rfl) rfl rfl hl.1 rfl (lv_room (Nat.le_of_ble_eq_true rfl)) dX1_cell_3 ⟨Nat.le_of_ble_eq_true rfl, Nat.le_of_ble_eq_true rfl⟩) ?_
      refine gz_ifeqB (tgt := 48) hx hb dX1_cell_6 (by decide) (fun c_1 => False.elim (by omega)) (fun c_1 => ?_)
      refine lv_iload_n hx hb dX1_cell_9 rfl (lv_at hl 3 rfl) ?_
      refine gz_if_lt (tgt := 48) (za := ((k : Nat) : Int)) hx hb dX1_cell_10 (by decide) (nI_toInt (by omega)) (fun c_2 => False.elim (by omega)) (fun c_2 => ?_)
      refine lv_iload_n hx hb dX1_cell_13 rfl (lv_at hl 3 rfl) ?_
      refine lv_bipush (v := nI 9) hx hb dX1_cell_14 (by decide) ?_
      refine gz_icmp_gt (tgt := 48) (za := ((k : Nat) : Int)) (zb := ((9 : Nat) : Int)) hx hb dX1_cell_16 (by decide) (nI_toInt (by omega)) (nI_toInt (by omega)) (fun c_3 => False.elim (by omega)) (fun c_3 => ?_)
      refine lv_iload_n hx hb dX1_cell_19 rfl (lv_at hl 3 rfl) ?_
      refine lv_iconst (v := nI 1) hx hb dX1_cell_20 (by decide) ?_
      refine gz_icmp_le (tgt := 32) (za := ((k : Nat) : Int)) (zb := ((1 : Nat) : Int)) hx hb dX1_cell_21 (by decide) (nI_toInt (by omega)) (nI_toInt (by omega)) (fun c_4 => False.elim (by omega)) (fun c_4 => ?_)
      refine lv_iload hx hb dX1_cell_24 (lv_at hl 4 rfl) ?_
      refine gz_callR (W.runS (As := [.int (x)]) (rest := []) ⟨hx, hb, hml, hown, hts⟩ (cM_isVariable l x) (va_cwS 1 hts gX1_cell_X1_isVariable rfl rfl rfl (by decide +kernel) ⟨Nat.le_of_ble_eq_true rfl, Nat.le_of_ble_eq_true rfl⟩) preEq rfl rfl hl.1 rfl (lv_room (Nat.le_of_ble_eq_true rfl)) dX1_cell_26 ⟨Nat.le_of_ble_eq_true rfl, Nat.le_of_ble_eq_true rfl⟩) ?_
      refine gz_ifeqB (tgt := 48) hx hb dX1_cell_29 (by decide) (fun c_5 => False.elim (by omega)) (fun c_5 => ?_)
      refine lv_iload_n hx hb dX1_cell_32 rfl (lv_at hl 3 rfl) ?_
      refine lv_bipush (v := nI 6) hx hb dX1_cell_33 (by decide) ?_
      refine gz_icmp_lt (tgt := 50) (za := ((k : Nat) : Int)) (zb := ((6 : Nat) : Int)) hx hb dX1_cell_35 (by decide) (nI_toInt (by omega)) (nI_toInt (by omega)) (fun c_6 => False.elim (by omega)) (fun c_6 => ?_)
      refine lv_iload_n hx hb dX1_cell_38 rfl (lv_at hl 2 rfl) ?_
      refine lv_aload_n hx hb dX1_cell_39 rfl (lv_at hl 0 rfl) ?_
      refine va_get (D := (dC, dI)) (ci := 1) (v := .int (nI cn)) (C := RX1) (T := TX1) (N := 10) hx hb hts hin1 hown hK hP 0 rfl rfl 1 (by decide) lk40 (fun _ h9 => h9) rfl dX1_cell_40 ?_
      refine lv_iconst (v := nI 1) hx hb dX1_cell_43 (by decide) ?_
      refine gz_isub (i := cn) (j := 1) hx hb dX1_cell_44 (by omega) ?_
      refine gz_icmp_eq (tgt := 50) (za := ((j : Nat) : Int)) (zb := ((cn - 1 : Nat) : Int)) hx hb dX1_cell_45 (by decide) (nI_toInt (by omega)) (nI_toInt (by omega)) (fun c_7 => ?_) (fun c_7 => False.elim (by omega))
      refine lv_bipush (v := nI 12) hx hb dX1_cell_50 (by decide) ?_
      refine lv_iload_n hx hb dX1_cell_52 rfl (lv_at hl 1 rfl) ?_
      refine gz_imulc (i := 12) (j := i) hx hb dX1_cell_53 ?_
      refine lv_iload_n hx hb dX1_cell_54 rfl (lv_at hl 2 rfl) ?_
      refine gz_iadd (i := i * 12) (j := j) hx hb dX1_cell_55 ?_
      refine lv_istore (lv' := [(5, .int (nI ((i * 12) + j))), (0, .ref gm), (1, .int (nI i)), (2, .int (nI j)), (3, .int (nI k)), (4, .int (x))]) hx hb dX1_cell_56 hl (by decide) rfl (fun ls hl => ?_)
      refine lv_aload_n hx hb dX1_cell_58 rfl (lv_at hl 1 rfl) ?_
      refine va_get (D := (dC, dI)) (ci := 1) (v := .ref ak) (C := RX1) (T := TX1) (N := 10) hx hb hts hin1 hown hK hP 0 rfl rfl 2 (by decide) lk7 (fun _ h9 => h9) rfl dX1_cell_59 ?_
      refine lv_iload hx hb dX1_cell_62 (lv_at hl 0 rfl) ?_
      refine gz_iald (k := (i * 12) + j) hx hb hK hP 1 0 rfl rfl (by omega) (by omega) dX1_cell_64 ?_
      refine lv_istore (lv' := [(6, .int (fk ((i * 12) + j))), (5, .int (nI ((i * 12) + j))), (0, .ref gm), (1, .int (nI i)), (2, .int (nI j)), (3, .int (nI k)), (4, .int (x))]) hx hb dX1_cell_65 hl (by decide) rfl (fun ls hl => ?_)
      refine lv_aload_n hx hb dX1_cell_67 rfl (lv_at hl 2 rfl) ?_
      refine va_get (D := (dC, dI)) (ci := 1) (v := .ref ak) (C := RX1) (T := TX1) (N := 10) hx hb hts hin1 hown hK hP 0 rfl rfl 2 (by decide) lk7 (fun _ h9 => h9) rfl dX1_cell_68 ?_
      refine lv_iload hx hb dX1_cell_71 (lv_at hl 1 rfl) ?_
      refine lv_iload_n hx hb dX1_cell_73 rfl (lv_at hl 5 rfl) ?_
      refine gz_iast (k := (i * 12) + j) hx hb hK hP hD hS 1 0 rfl rfl (by omega) (by omega) dX1_cell_74 (fun H locs hP hD hS => ?_)
      have hP : va_P (dC, dI) vwCl (mw cA cZ gm ak ac ab al av ah ap (upd fk ((i * 12) + j) (nI k)) fc fs fl fp fv ft (nI rn) (nI cn) sc) H := hP
      have hD : va_D A (mw cA cZ gm ak ac ab al av ah ap (upd fk ((i * 12) + j) (nI k)) fc fs fl fp fv ft (nI rn) (nI cn) sc) := hD
      refine lv_aload_n hx hb dX1_cell_75 rfl (lv_at hl 2 rfl) ?_
      refine va_get (D := (dC, dI)) (ci := 1) (v := .ref ac) (C := RX1) (T := TX1) (N := 10) hx hb hts hin1 hown hK hP 0 rfl rfl 3 (by decide) lk13 (fun _ h9 => h9) rfl dX1_cell_76 ?_
      refine lv_iload hx hb dX1_cell_79 (lv_at hl 1 rfl) ?_
      refine lv_iload_n hx hb dX1_cell_81 rfl (lv_at hl 5 rfl) ?_
      refine lv_iconst (v := nI 1) hx hb dX1_cell_82 (by decide) ?_
      refine gz_icmp_le (tgt := 91) (za := ((k : Nat) : Int)) (zb := ((1 : Nat) : Int)) hx hb dX1_cell_83 (by decide) (nI_toInt (by omega)) (nI_toInt (by omega)) (fun c_8 => False.elim (by omega)) (fun c_8 => ?_)
      refine lv_iload hx hb dX1_cell_86 (lv_at hl 6 rfl) ?_
      refine lv_goto (tgt := 92) hx hb dX1_cell_88 (by decide) ?_
      refine gz_iast (k := (i * 12) + j) hx hb hK hP hD hS 2 0 rfl rfl (by omega) (by omega) dX1_cell_92 (fun H locs hP hD hS => ?_)
      have hP : va_P (dC, dI) vwCl (mw cA cZ gm ak ac ab al av ah ap (upd fk ((i * 12) + j) (nI k)) (upd fc ((i * 12) + j) x) fs fl fp fv ft (nI rn) (nI cn) sc) H := hP
      have hD : va_D A (mw cA cZ gm ak ac ab al av ah ap (upd fk ((i * 12) + j) (nI k)) (upd fc ((i * 12) + j) x) fs fl fp fv ft (nI rn) (nI cn) sc) := hD
      refine lv_aload_n hx hb dX1_cell_93 rfl (lv_at hl 2 rfl) ?_
      refine va_get (D := (dC, dI)) (ci := 1) (v := .ref ab) (C := RX1) (T := TX1) (N := 10) hx hb hts hin1 hown hK hP 0 rfl rfl 4 (by decide) lk16 (fun _ h9 => h9) rfl dX1_cell_94 ?_
      refine lv_iload hx hb dX1_cell_97 (lv_at hl 1 rfl) ?_
      refine lv_iconst (v := nI 0) hx hb dX1_cell_99 (by decide) ?_
      refine gz_iast (k := (i * 12) + j) hx hb hK hP hD hS 3 0 rfl rfl (by omega) (by omega) dX1_cell_100 (fun H locs hP hD hS => ?_)
      have hP : va_P (dC, dI) vwCl (mw cA cZ gm ak ac ab al av ah ap (upd fk ((i * 12) + j) (nI k)) (upd fc ((i * 12) + j) x) (upd fs ((i * 12) + j) (nI 0)) fl fp fv ft (nI rn) (nI cn) sc) H := hP
      have hD : va_D A (mw cA cZ gm ak ac ab al av ah ap (upd fk ((i * 12) + j) (nI k)) (upd fc ((i * 12) + j) x) (upd fs ((i * 12) + j) (nI 0)) fl fp fv ft (nI rn) (nI cn) sc) := hD
      refine lv_aload_n hx hb dX1_cell_101 rfl (lv_at hl 2 rfl) ?_
      refine lv_iconst (v := nI 0) hx hb dX1_cell_102 (by decide) ?_
      refine va_put (D := (dC, dI)) (ci := 1) (v := .int (nI 0)) (ty := .boolean) (C := RX1) (T := TX1) (N := 10) hx hb hts hin1 tyX1 tyX1_ok nmX1 hown hK hP hD hS 0 rfl rfl 9 (by decide) lk43 (fun _ h9 => h9) rfl (by decide +kernel) rfl rfl (Nat.le_of_ble_eq_true rfl) dX1_cell_103 (fun H locs hP hD hS => ?_)
      have hP : va_P (dC, dI) vwCl (mw cA cZ gm ak ac ab al av ah ap (upd fk ((i * 12) + j) (nI k)) (upd fc ((i * 12) + j) x) (upd fs ((i * 12) + j) (nI 0)) fl fp fv ft (nI rn) (nI cn) (nI 0)) H := hP
      have hD : va_D A (mw cA cZ gm ak ac ab al av ah ap (upd fk ((i * 12) + j) (nI k)) (upd fc ((i * 12) + j) x) (upd fs ((i * 12) + j) (nI 0)) fl fp fv ft (nI rn) (nI cn) (nI 0)) := hD
      refine lv_iload hx hb dX1_cell_106 (lv_at hl 0 rfl) ?_
      exact W.iret (v := fk ((i * 12) + j)) hx hb hr (fun t ht hW => ⟨⟨fk ((i * 12) + j), (), rfl, rfl, by rw [ht]; exact (by rw [if_pos hk2]; exact hP), va_K.moved hW.alike hK, (by rw [if_pos hk2]; exact hD)⟩, hS.F ht⟩) hS.2.2 dX1_cell_108
    · skip
      refine lv_aload_n hx hb dX1_cell_0 rfl (lv_at hl 0 rfl) ?_
      refine lv_iload_n hx hb dX1_cell_1 rfl (lv_at hl 1 rfl) ?_
      refine lv_iload_n hx hb dX1_cell_2 rfl (lv_at hl 2 rfl) ?_
      refine gz_callR (W.runV (As := [.int (nI i), .int (nI j)]) (rest := []) ⟨hx, hb, hml, hown, hts⟩ (cM_isCell l dC dI cA cZ gm ak ac ab al av ah ap fk fc fs fl fp fv ft rn cn sc (nI i) (nI j) hrn hcn) (cwV 2 hts gX1_cell_X1_isCell rfl rfl rfl (by decide +kernel) ⟨Nat.le_of_ble_eq_true rfl, Nat.le_of_ble_eq_true rfl⟩) (gz_preV (q := (RX1, TX1, 10)) (ci := 1) hK hP [0, 1, 2, 3, 4, 5, 6, 7] rfl rfl rfl) rfl rfl hl.1 rfl (lv_room (Nat.le_of_ble_eq_true rfl)) dX1_cell_3 ⟨Nat.le_of_ble_eq_true rfl, Nat.le_of_ble_eq_true rfl⟩) ?_
      refine gz_ifeqB (tgt := 48) hx hb dX1_cell_6 (by decide) (fun c_1 => False.elim (by omega)) (fun c_1 => ?_)
      refine lv_iload_n hx hb dX1_cell_9 rfl (lv_at hl 3 rfl) ?_
      refine gz_if_lt (tgt := 48) (za := ((k : Nat) : Int)) hx hb dX1_cell_10 (by decide) (nI_toInt (by omega)) (fun c_2 => False.elim (by omega)) (fun c_2 => ?_)
      refine lv_iload_n hx hb dX1_cell_13 rfl (lv_at hl 3 rfl) ?_
      refine lv_bipush (v := nI 9) hx hb dX1_cell_14 (by decide) ?_
      refine gz_icmp_gt (tgt := 48) (za := ((k : Nat) : Int)) (zb := ((9 : Nat) : Int)) hx hb dX1_cell_16 (by decide) (nI_toInt (by omega)) (nI_toInt (by omega)) (fun c_3 => False.elim (by omega)) (fun c_3 => ?_)
      refine lv_iload_n hx hb dX1_cell_19 rfl (lv_at hl 3 rfl) ?_
      refine lv_iconst (v := nI 1) hx hb dX1_cell_20 (by decide) ?_
      refine gz_icmp_le (tgt := 32) (za := ((k : Nat) : Int)) (zb := ((1 : Nat) : Int)) hx hb dX1_cell_21 (by decide) (nI_toInt (by omega)) (nI_toInt (by omega)) (fun c_4 => False.elim (by omega)) (fun c_4 => ?_)
      refine lv_iload hx hb dX1_cell_24 (lv_at hl 4 rfl) ?_
      refine gz_callR (W.runS (As := [.int (x)]) (rest := []) ⟨hx, hb, hml, hown, hts⟩ (cM_isVariable l x) (va_cwS 1 hts gX1_cell_X1_isVariable rfl rfl rfl (by decide +kernel) ⟨Nat.le_of_ble_eq_true rfl, Nat.le_of_ble_eq_true rfl⟩) preEq rfl rfl hl.1 rfl (lv_room (Nat.le_of_ble_eq_true rfl)) dX1_cell_26 ⟨Nat.le_of_ble_eq_true rfl, Nat.le_of_ble_eq_true rfl⟩) ?_
      refine gz_ifeqB (tgt := 48) hx hb dX1_cell_29 (by decide) (fun c_5 => False.elim (by omega)) (fun c_5 => ?_)
      refine lv_iload_n hx hb dX1_cell_32 rfl (lv_at hl 3 rfl) ?_
      refine lv_bipush (v := nI 6) hx hb dX1_cell_33 (by decide) ?_
      refine gz_icmp_lt (tgt := 50) (za := ((k : Nat) : Int)) (zb := ((6 : Nat) : Int)) hx hb dX1_cell_35 (by decide) (nI_toInt (by omega)) (nI_toInt (by omega)) (fun c_6 => ?_) (fun c_6 => False.elim (by omega))
      refine lv_bipush (v := nI 12) hx hb dX1_cell_50 (by decide) ?_
      refine lv_iload_n hx hb dX1_cell_52 rfl (lv_at hl 1 rfl) ?_
      refine gz_imulc (i := 12) (j := i) hx hb dX1_cell_53 ?_
      refine lv_iload_n hx hb dX1_cell_54 rfl (lv_at hl 2 rfl) ?_
      refine gz_iadd (i := i * 12) (j := j) hx hb dX1_cell_55 ?_
      refine lv_istore (lv' := [(5, .int (nI ((i * 12) + j))), (0, .ref gm), (1, .int (nI i)), (2, .int (nI j)), (3, .int (nI k)), (4, .int (x))]) hx hb dX1_cell_56 hl (by decide) rfl (fun ls hl => ?_)
      refine lv_aload_n hx hb dX1_cell_58 rfl (lv_at hl 1 rfl) ?_
      refine va_get (D := (dC, dI)) (ci := 1) (v := .ref ak) (C := RX1) (T := TX1) (N := 10) hx hb hts hin1 hown hK hP 0 rfl rfl 2 (by decide) lk7 (fun _ h9 => h9) rfl dX1_cell_59 ?_
      refine lv_iload hx hb dX1_cell_62 (lv_at hl 0 rfl) ?_
      refine gz_iald (k := (i * 12) + j) hx hb hK hP 1 0 rfl rfl (by omega) (by omega) dX1_cell_64 ?_
      refine lv_istore (lv' := [(6, .int (fk ((i * 12) + j))), (5, .int (nI ((i * 12) + j))), (0, .ref gm), (1, .int (nI i)), (2, .int (nI j)), (3, .int (nI k)), (4, .int (x))]) hx hb dX1_cell_65 hl (by decide) rfl (fun ls hl => ?_)
      refine lv_aload_n hx hb dX1_cell_67 rfl (lv_at hl 2 rfl) ?_
      refine va_get (D := (dC, dI)) (ci := 1) (v := .ref ak) (C := RX1) (T := TX1) (N := 10) hx hb hts hin1 hown hK hP 0 rfl rfl 2 (by decide) lk7 (fun _ h9 => h9) rfl dX1_cell_68 ?_
      refine lv_iload hx hb dX1_cell_71 (lv_at hl 1 rfl) ?_
      refine lv_iload_n hx hb dX1_cell_73 rfl (lv_at hl 5 rfl) ?_
      refine gz_iast (k := (i * 12) + j) hx hb hK hP hD hS 1 0 rfl rfl (by omega) (by omega) dX1_cell_74 (fun H locs hP hD hS => ?_)
      have hP : va_P (dC, dI) vwCl (mw cA cZ gm ak ac ab al av ah ap (upd fk ((i * 12) + j) (nI k)) fc fs fl fp fv ft (nI rn) (nI cn) sc) H := hP
      have hD : va_D A (mw cA cZ gm ak ac ab al av ah ap (upd fk ((i * 12) + j) (nI k)) fc fs fl fp fv ft (nI rn) (nI cn) sc) := hD
      refine lv_aload_n hx hb dX1_cell_75 rfl (lv_at hl 2 rfl) ?_
      refine va_get (D := (dC, dI)) (ci := 1) (v := .ref ac) (C := RX1) (T := TX1) (N := 10) hx hb hts hin1 hown hK hP 0 rfl rfl 3 (by decide) lk13 (fun _ h9 => h9) rfl dX1_cell_76 ?_
      refine lv_iload hx hb dX1_cell_79 (lv_at hl 1 rfl) ?_
      refine lv_iload_n hx hb dX1_cell_81 rfl (lv_at hl 5 rfl) ?_
      refine lv_iconst (v := nI 1) hx hb dX1_cell_82 (by decide) ?_
      refine gz_icmp_le (tgt := 91) (za := ((k : Nat) : Int)) (zb := ((1 : Nat) : Int)) hx hb dX1_cell_83 (by decide) (nI_toInt (by omega)) (nI_toInt (by omega)) (fun c_7 => False.elim (by omega)) (fun c_7 => ?_)
      refine lv_iload hx hb dX1_cell_86 (lv_at hl 6 rfl) ?_
      refine lv_goto (tgt := 92) hx hb dX1_cell_88 (by decide) ?_
      refine gz_iast (k := (i * 12) + j) hx hb hK hP hD hS 2 0 rfl rfl (by omega) (by omega) dX1_cell_92 (fun H locs hP hD hS => ?_)
      have hP : va_P (dC, dI) vwCl (mw cA cZ gm ak ac ab al av ah ap (upd fk ((i * 12) + j) (nI k)) (upd fc ((i * 12) + j) x) fs fl fp fv ft (nI rn) (nI cn) sc) H := hP
      have hD : va_D A (mw cA cZ gm ak ac ab al av ah ap (upd fk ((i * 12) + j) (nI k)) (upd fc ((i * 12) + j) x) fs fl fp fv ft (nI rn) (nI cn) sc) := hD
      refine lv_aload_n hx hb dX1_cell_93 rfl (lv_at hl 2 rfl) ?_
      refine va_get (D := (dC, dI)) (ci := 1) (v := .ref ab) (C := RX1) (T := TX1) (N := 10) hx hb hts hin1 hown hK hP 0 rfl rfl 4 (by decide) lk16 (fun _ h9 => h9) rfl dX1_cell_94 ?_
      refine lv_iload hx hb dX1_cell_97 (lv_at hl 1 rfl) ?_
      refine lv_iconst (v := nI 0) hx hb dX1_cell_99 (by decide) ?_
      refine gz_iast (k := (i * 12) + j) hx hb hK hP hD hS 3 0 rfl rfl (by omega) (by omega) dX1_cell_100 (fun H locs hP hD hS => ?_)
      have hP : va_P (dC, dI) vwCl (mw cA cZ gm ak ac ab al av ah ap (upd fk ((i * 12) + j) (nI k)) (upd fc ((i * 12) + j) x) (upd fs ((i * 12) + j) (nI 0)) fl fp fv ft (nI rn) (nI cn) sc) H := hP
      have hD : va_D A (mw cA cZ gm ak ac ab al av ah ap (upd fk ((i * 12) + j) (nI k)) (upd fc ((i * 12) + j) x) (upd fs ((i * 12) + j) (nI 0)) fl fp fv ft (nI rn) (nI cn) sc) := hD
      refine lv_aload_n hx hb dX1_cell_101 rfl (lv_at hl 2 rfl) ?_
      refine lv_iconst (v := nI 0) hx hb dX1_cell_102 (by decide) ?_
      refine va_put (D := (dC, dI)) (ci := 1) (v := .int (nI 0)) (ty := .boolean) (C := RX1) (T := TX1) (N := 10) hx hb hts hin1 tyX1 tyX1_ok nmX1 hown hK hP hD hS 0 rfl rfl 9 (by decide) lk43 (fun _ h9 => h9) rfl (by decide +kernel) rfl rfl (Nat.le_of_ble_eq_true rfl) dX1_cell_103 (fun H locs hP hD hS => ?_)
      have hP : va_P (dC, dI) vwCl (mw cA cZ gm ak ac ab al av ah ap (upd fk ((i * 12) + j) (nI k)) (upd fc ((i * 12) + j) x) (upd fs ((i * 12) + j) (nI 0)) fl fp fv ft (nI rn) (nI cn) (nI 0)) H := hP
      have hD : va_D A (mw cA cZ gm ak ac ab al av ah ap (upd fk ((i * 12) + j) (nI k)) (upd fc ((i * 12) + j) x) (upd fs ((i * 12) + j) (nI 0)) fl fp fv ft (nI rn) (nI cn) (nI 0)) := hD
      refine lv_iload hx hb dX1_cell_106 (lv_at hl 0 rfl) ?_
      exact W.iret (v := fk ((i * 12) + j)) hx hb hr (fun t ht hW => ⟨⟨fk ((i * 12) + j), (), rfl, rfl, by rw [ht]; exact (by rw [if_pos hk2]; exact hP), va_K.moved hW.alike hK, (by rw [if_pos hk2]; exact hD)⟩, hS.F ht⟩) hS.2.2 dX1_cell_108
  · skip
    refine lv_aload_n hx hb dX1_cell_0 rfl (lv_at hl 0 rfl) ?_
    refine lv_iload_n hx hb dX1_cell_1 rfl (lv_at hl 1 rfl) ?_
    refine lv_iload_n hx hb dX1_cell_2 rfl (lv_at hl 2 rfl) ?_
    refine gz_callR (W.runV (As := [.int (nI i), .int (nI j)]) (rest := []) ⟨hx, hb, hml, hown, hts⟩ (cM_isCell l dC dI cA cZ gm ak ac ab al av ah ap fk fc fs fl fp fv ft rn cn sc (nI i) (nI j) hrn hcn) (cwV 2 hts gX1_cell_X1_isCell rfl rfl rfl (by decide +kernel) ⟨Nat.le_of_ble_eq_true rfl, Nat.le_of_ble_eq_true rfl⟩) (gz_preV (q := (RX1, TX1, 10)) (ci := 1) hK hP [0, 1, 2, 3, 4, 5, 6, 7] rfl rfl rfl) rfl rfl hl.1 rfl (lv_room (Nat.le_of_ble_eq_true rfl)) dX1_cell_3 ⟨Nat.le_of_ble_eq_true rfl, Nat.le_of_ble_eq_true rfl⟩) ?_
    refine gz_ifeqB (tgt := 48) hx hb dX1_cell_6 (by decide) (fun c_1 => False.elim (by omega)) (fun c_1 => ?_)
    refine lv_iload_n hx hb dX1_cell_9 rfl (lv_at hl 3 rfl) ?_
    refine gz_if_lt (tgt := 48) (za := ((k : Nat) : Int)) hx hb dX1_cell_10 (by decide) (nI_toInt (by omega)) (fun c_2 => False.elim (by omega)) (fun c_2 => ?_)
    refine lv_iload_n hx hb dX1_cell_13 rfl (lv_at hl 3 rfl) ?_
    refine lv_bipush (v := nI 9) hx hb dX1_cell_14 (by decide) ?_
    refine gz_icmp_gt (tgt := 48) (za := ((k : Nat) : Int)) (zb := ((9 : Nat) : Int)) hx hb dX1_cell_16 (by decide) (nI_toInt (by omega)) (nI_toInt (by omega)) (fun c_3 => False.elim (by omega)) (fun c_3 => ?_)
    refine lv_iload_n hx hb dX1_cell_19 rfl (lv_at hl 3 rfl) ?_
    refine lv_iconst (v := nI 1) hx hb dX1_cell_20 (by decide) ?_
    refine gz_icmp_le (tgt := 32) (za := ((k : Nat) : Int)) (zb := ((1 : Nat) : Int)) hx hb dX1_cell_21 (by decide) (nI_toInt (by omega)) (nI_toInt (by omega)) (fun c_4 => ?_) (fun c_4 => False.elim (by omega))
    refine lv_iload_n hx hb dX1_cell_32 rfl (lv_at hl 3 rfl) ?_
    refine lv_bipush (v := nI 6) hx hb dX1_cell_33 (by decide) ?_
    refine gz_icmp_lt (tgt := 50) (za := ((k : Nat) : Int)) (zb := ((6 : Nat) : Int)) hx hb dX1_cell_35 (by decide) (nI_toInt (by omega)) (nI_toInt (by omega)) (fun c_5 => ?_) (fun c_5 => False.elim (by omega))
    refine lv_bipush (v := nI 12) hx hb dX1_cell_50 (by decide) ?_
    refine lv_iload_n hx hb dX1_cell_52 rfl (lv_at hl 1 rfl) ?_
    refine gz_imulc (i := 12) (j := i) hx hb dX1_cell_53 ?_
    refine lv_iload_n hx hb dX1_cell_54 rfl (lv_at hl 2 rfl) ?_
    refine gz_iadd (i := i * 12) (j := j) hx hb dX1_cell_55 ?_
    refine lv_istore (lv' := [(5, .int (nI ((i * 12) + j))), (0, .ref gm), (1, .int (nI i)), (2, .int (nI j)), (3, .int (nI k)), (4, .int (x))]) hx hb dX1_cell_56 hl (by decide) rfl (fun ls hl => ?_)
    refine lv_aload_n hx hb dX1_cell_58 rfl (lv_at hl 1 rfl) ?_
    refine va_get (D := (dC, dI)) (ci := 1) (v := .ref ak) (C := RX1) (T := TX1) (N := 10) hx hb hts hin1 hown hK hP 0 rfl rfl 2 (by decide) lk7 (fun _ h9 => h9) rfl dX1_cell_59 ?_
    refine lv_iload hx hb dX1_cell_62 (lv_at hl 0 rfl) ?_
    refine gz_iald (k := (i * 12) + j) hx hb hK hP 1 0 rfl rfl (by omega) (by omega) dX1_cell_64 ?_
    refine lv_istore (lv' := [(6, .int (fk ((i * 12) + j))), (5, .int (nI ((i * 12) + j))), (0, .ref gm), (1, .int (nI i)), (2, .int (nI j)), (3, .int (nI k)), (4, .int (x))]) hx hb dX1_cell_65 hl (by decide) rfl (fun ls hl => ?_)
    refine lv_aload_n hx hb dX1_cell_67 rfl (lv_at hl 2 rfl) ?_
    refine va_get (D := (dC, dI)) (ci := 1) (v := .ref ak) (C := RX1) (T := TX1) (N := 10) hx hb hts hin1 hown hK hP 0 rfl rfl 2 (by decide) lk7 (fun _ h9 => h9) rfl dX1_cell_68 ?_
    refine lv_iload hx hb dX1_cell_71 (lv_at hl 1 rfl) ?_
    refine lv_iload_n hx hb dX1_cell_73 rfl (lv_at hl 5 rfl) ?_
    refine gz_iast (k := (i * 12) + j) hx hb hK hP hD hS 1 0 rfl rfl (by omega) (by omega) dX1_cell_74 (fun H locs hP hD hS => ?_)
    have hP : va_P (dC, dI) vwCl (mw cA cZ gm ak ac ab al av ah ap (upd fk ((i * 12) + j) (nI k)) fc fs fl fp fv ft (nI rn) (nI cn) sc) H := hP
    have hD : va_D A (mw cA cZ gm ak ac ab al av ah ap (upd fk ((i * 12) + j) (nI k)) fc fs fl fp fv ft (nI rn) (nI cn) sc) := hD
    refine lv_aload_n hx hb dX1_cell_75 rfl (lv_at hl 2 rfl) ?_
    refine va_get (D := (dC, dI)) (ci := 1) (v := .ref ac) (C := RX1) (T := TX1) (N := 10) hx hb hts hin1 hown hK hP 0 rfl rfl 3 (by decide) lk13 (fun _ h9 => h9) rfl dX1_cell_76 ?_
    refine lv_iload hx hb dX1_cell_79 (lv_at hl 1 rfl) ?_
    refine lv_iload_n hx hb dX1_cell_81 rfl (lv_at hl 5 rfl) ?_
    refine lv_iconst (v := nI 1) hx hb dX1_cell_82 (by decide) ?_
    refine gz_icmp_le (tgt := 91) (za := ((k : Nat) : Int)) (zb := ((1 : Nat) : Int)) hx hb dX1_cell_83 (by decide) (nI_toInt (by omega)) (nI_toInt (by omega)) (fun c_6 => ?_) (fun c_6 => False.elim (by omega))
    refine lv_iconst (v := nI 0) hx hb dX1_cell_91 (by decide) ?_
    refine gz_iast (k := (i * 12) + j) hx hb hK hP hD hS 2 0 rfl rfl (by omega) (by omega) dX1_cell_92 (fun H locs hP hD hS => ?_)
    have hP : va_P (dC, dI) vwCl (mw cA cZ gm ak ac ab al av ah ap (upd fk ((i * 12) + j) (nI k)) (upd fc ((i * 12) + j) (nI 0)) fs fl fp fv ft (nI rn) (nI cn) sc) H := hP
    have hD : va_D A (mw cA cZ gm ak ac ab al av ah ap (upd fk ((i * 12) + j) (nI k)) (upd fc ((i * 12) + j) (nI 0)) fs fl fp fv ft (nI rn) (nI cn) sc) := hD
    refine lv_aload_n hx hb dX1_cell_93 rfl (lv_at hl 2 rfl) ?_
    refine va_get (D := (dC, dI)) (ci := 1) (v := .ref ab) (C := RX1) (T := TX1) (N := 10) hx hb hts hin1 hown hK hP 0 rfl rfl 4 (by decide) lk16 (fun _ h9 => h9) rfl dX1_cell_94 ?_
    refine lv_iload hx hb dX1_cell_97 (lv_at hl 1 rfl) ?_
    refine lv_iconst (v := nI 0) hx hb dX1_cell_99 (by decide) ?_
    refine gz_iast (k := (i * 12) + j) hx hb hK hP hD hS 3 0 rfl rfl (by omega) (by omega) dX1_cell_100 (fun H locs hP hD hS => ?_)
    have hP : va_P (dC, dI) vwCl (mw cA cZ gm ak ac ab al av ah ap (upd fk ((i * 12) + j) (nI k)) (upd fc ((i * 12) + j) (nI 0)) (upd fs ((i * 12) + j) (nI 0)) fl fp fv ft (nI rn) (nI cn) sc) H := hP
    have hD : va_D A (mw cA cZ gm ak ac ab al av ah ap (upd fk ((i * 12) + j) (nI k)) (upd fc ((i * 12) + j) (nI 0)) (upd fs ((i * 12) + j) (nI 0)) fl fp fv ft (nI rn) (nI cn) sc) := hD
    refine lv_aload_n hx hb dX1_cell_101 rfl (lv_at hl 2 rfl) ?_
    refine lv_iconst (v := nI 0) hx hb dX1_cell_102 (by decide) ?_
    refine va_put (D := (dC, dI)) (ci := 1) (v := .int (nI 0)) (ty := .boolean) (C := RX1) (T := TX1) (N := 10) hx hb hts hin1 tyX1 tyX1_ok nmX1 hown hK hP hD hS 0 rfl rfl 9 (by decide) lk43 (fun _ h9 => h9) rfl (by decide +kernel) rfl rfl (Nat.le_of_ble_eq_true rfl) dX1_cell_103 (fun H locs hP hD hS => ?_)
    have hP : va_P (dC, dI) vwCl (mw cA cZ gm ak ac ab al av ah ap (upd fk ((i * 12) + j) (nI k)) (upd fc ((i * 12) + j) (nI 0)) (upd fs ((i * 12) + j) (nI 0)) fl fp fv ft (nI rn) (nI cn) (nI 0)) H := hP
    have hD : va_D A (mw cA cZ gm ak ac ab al av ah ap (upd fk ((i * 12) + j) (nI k)) (upd fc ((i * 12) + j) (nI 0)) (upd fs ((i * 12) + j) (nI 0)) fl fp fv ft (nI rn) (nI cn) (nI 0)) := hD
    refine lv_iload hx hb dX1_cell_106 (lv_at hl 0 rfl) ?_
    exact W.iret (v := fk ((i * 12) + j)) hx hb hr (fun t ht hW => ⟨⟨fk ((i * 12) + j), (), rfl, rfl, by rw [ht]; exact (by rw [if_neg hk2]; exact hP), va_K.moved hW.alike hK, (by rw [if_neg hk2]; exact hD)⟩, hS.F ht⟩) hS.2.2 dX1_cell_108
set_option maxHeartbeats 4000000 in
set_option maxRecDepth 100000 in
theorem cM_cell_bad (l : Launch) (dC : Nat → ClassId) (dI : Nat → Nat → Nat) (cA cZ : ClassId) (gm ak ac ab al av ah ap : Nat) (fk fc fs fl fp fv ft : Nat → Int32) (rn cn : Nat) (sc : Int32) (x y k v : Int32) (hrn : 1 ≤ rn ∧ rn ≤ 12) (hcn : 1 ≤ cn ∧ cn ≤ 12) (hx0 : ¬ (0 ≤ x.toInt ∧ x.toInt < (rn : Int) ∧ 0 ≤ y.toInt ∧ y.toInt < (cn : Int) ∧ 0 ≤ k.toInt ∧ k.toInt ≤ 9 ∧ (k.toInt < 2 ∨ (0 ≤ v.toInt ∧ v.toInt < 40)) ∧ (k.toInt < 6 ∨ y.toInt + 1 = (cn : Int)))) : Met l yX1_cell wsX1_cell ({ frames := 1, cells := 0, slots := 0, locals := 22 }) (gPr (dC, dI) vwCl [(cA, .int), (cZ, .boolean)] [.ref gm, .int x, .int y, .int k, .int v] (mw cA cZ gm ak ac ab al av ah ap fk fc fs fl fp fv ft (nI rn) (nI cn) sc)) (QcRead (-1)) 0 0 (fun _ => False) := by
  refine Met.ofW (cc := cX1_cell) (maxL := 7) (ret := (some .int)) (by decide) rfl ?_
  intro p e s m args below meth c s₁ B hml hv
  obtain ⟨rfl, hP, hK⟩ := hv
  have hx := B.exec
  have hb := B.bytes
  have hr := B.returns
  have hts := atoms_spec (ws := wsX1_cell) B.pre
  have hown : s.vm.findClass RX1 = some m.cls := findClass_of_methodNamed B.named
  have hlocks := B.notSynchronized
  have hin1 : ∀ w ∈ u_ws RX1 TX1 10, w ∈ wsX1_cell := by decide +kernel
  have lk40 := hts (.fieldLink RX1 40 "LadderGridModel" "columns" "I") (by decide +kernel)
  have lk7 := hts (.fieldLink RX1 7 "LadderGridModel" "kinds" "[I") (by decide +kernel)
  have lk13 := hts (.fieldLink RX1 13 "LadderGridModel" "variables" "[I") (by decide +kernel)
  have lk16 := hts (.fieldLink RX1 16 "LadderGridModel" "before" "[I") (by decide +kernel)
  have lk43 := hts (.fieldLink RX1 43 "LadderGridModel" "isScanned" "Z") (by decide +kernel)
  have hl := lv_entry ([.ref gm, .int x, .int y, .int k, .int v]) (n := 7) (Nat.le_of_ble_eq_true rfl)
  rw [lg_entry_eq]
  generalize (lg_sl ([.ref gm, .int x, .int y, .int k, .int v]) ++ List.replicate (7 - (lg_sl ([.ref gm, .int x, .int y, .int k, .int v])).length) Slot.unset).toArray = ls at hl ⊢
  have hl : lv_has ls 7 [(0, .ref gm), (1, .int (x)), (2, .int (y)), (3, .int (k)), (4, .int (v))] := hl
  refine lv_aload_n hx hb dX1_cell_0 rfl (lv_at hl 0 rfl) ?_
  refine lv_iload_n hx hb dX1_cell_1 rfl (lv_at hl 1 rfl) ?_
  refine lv_iload_n hx hb dX1_cell_2 rfl (lv_at hl 2 rfl) ?_
  refine gz_callR (W.runV (As := [.int (x), .int (y)]) (rest := []) ⟨hx, hb, hml, hown, hts⟩ (cM_isCell l dC dI cA cZ gm ak ac ab al av ah ap fk fc fs fl fp fv ft rn cn sc x y hrn hcn) (cwV 2 hts gX1_cell_X1_isCell rfl rfl rfl (by decide +kernel) ⟨Nat.le_of_ble_eq_true rfl, Nat.le_of_ble_eq_true rfl⟩) (gz_preV (q := (RX1, TX1, 10)) (ci := 1) hK hP [0, 1, 2, 3, 4, 5, 6, 7] rfl rfl rfl) rfl rfl hl.1 rfl (lv_room (Nat.le_of_ble_eq_true rfl)) dX1_cell_3 ⟨Nat.le_of_ble_eq_true rfl, Nat.le_of_ble_eq_true rfl⟩) ?_
  refine gz_ifeqB (tgt := 48) hx hb dX1_cell_6 (by decide) (fun c_1 => ?_) (fun c_1 => ?_)
  · skip
    refine lv_iconst (v := (-1)) hx hb dX1_cell_48 (by decide) ?_
    exact W.iret (v := (-1)) hx hb hr (fun t ht hW => ⟨rfl, ht⟩) (fun q h => absurd h List.not_mem_nil) dX1_cell_49
  · skip
    refine lv_iload_n hx hb dX1_cell_9 rfl (lv_at hl 3 rfl) ?_
    refine gz_if_lt (tgt := 48) (za := k.toInt) hx hb dX1_cell_10 (by decide) rfl (fun c_2 => ?_) (fun c_2 => ?_)
    · skip
      refine lv_iconst (v := (-1)) hx hb dX1_cell_48 (by decide) ?_
      exact W.iret (v := (-1)) hx hb hr (fun t ht hW => ⟨rfl, ht⟩) (fun q h => absurd h List.not_mem_nil) dX1_cell_49
    · skip
      refine lv_iload_n hx hb dX1_cell_13 rfl (lv_at hl 3 rfl) ?_
      refine lv_bipush (v := nI 9) hx hb dX1_cell_14 (by decide) ?_
      refine gz_icmp_gt (tgt := 48) (za := k.toInt) (zb := ((9 : Nat) : Int)) hx hb dX1_cell_16 (by decide) rfl (nI_toInt (by omega)) (fun c_3 => ?_) (fun c_3 => ?_)
      · skip
        refine lv_iconst (v := (-1)) hx hb dX1_cell_48 (by decide) ?_
        exact W.iret (v := (-1)) hx hb hr (fun t ht hW => ⟨rfl, ht⟩) (fun q h => absurd h List.not_mem_nil) dX1_cell_49
      · skip
        refine lv_iload_n hx hb dX1_cell_19 rfl (lv_at hl 3 rfl) ?_
        refine lv_iconst (v := nI 1) hx hb dX1_cell_20 (by decide) ?_
        refine gz_icmp_le (tgt := 32) (za := k.toInt) (zb := ((1 : Nat) : Int)) hx hb dX1_cell_21 (by decide) rfl (nI_toInt (by omega)) (fun c_4 => ?_) (fun c_4 => ?_)
        · skip
          refine lv_iload_n hx hb dX1_cell_32 rfl (lv_at hl 3 rfl) ?_
          refine lv_bipush (v := nI 6) hx hb dX1_cell_33 (by decide) ?_
          refine gz_icmp_lt (tgt := 50) (za := k.toInt) (zb := ((6 : Nat) : Int)) hx hb dX1_cell_35 (by decide) rfl (nI_toInt (by omega)) (fun c_5 => ?_) (fun c_5 => ?_)
          · skip
            exact False.elim (by omega)
          · skip
            refine lv_iload_n hx hb dX1_cell_38 rfl (lv_at hl 2 rfl) ?_
            refine lv_aload_n hx hb dX1_cell_39 rfl (lv_at hl 0 rfl) ?_
            refine va_get (D := (dC, dI)) (ci := 1) (v := .int (nI cn)) (C := RX1) (T := TX1) (N := 10) hx hb hts hin1 hown hK hP 0 rfl rfl 1 (by decide) lk40 (fun _ h9 => h9) rfl dX1_cell_40 ?_
            refine lv_iconst (v := nI 1) hx hb dX1_cell_43 (by decide) ?_
            refine gz_isub (i := cn) (j := 1) hx hb dX1_cell_44 (by omega) ?_
            refine gz_icmp_eq (tgt := 50) (za := y.toInt) (zb := ((cn - 1 : Nat) : Int)) hx hb dX1_cell_45 (by decide) rfl (nI_toInt (by omega)) (fun c_6 => ?_) (fun c_6 => ?_)
            · skip
              exact False.elim (by omega)
            · skip
              refine lv_iconst (v := (-1)) hx hb dX1_cell_48 (by decide) ?_
              exact W.iret (v := (-1)) hx hb hr (fun t ht hW => ⟨rfl, ht⟩) (fun q h => absurd h List.not_mem_nil) dX1_cell_49
        · skip
          refine lv_iload hx hb dX1_cell_24 (lv_at hl 4 rfl) ?_
          refine gz_callR (W.runS (As := [.int (v)]) (rest := []) ⟨hx, hb, hml, hown, hts⟩ (cM_isVariable l v) (va_cwS 1 hts gX1_cell_X1_isVariable rfl rfl rfl (by decide +kernel) ⟨Nat.le_of_ble_eq_true rfl, Nat.le_of_ble_eq_true rfl⟩) preEq rfl rfl hl.1 rfl (lv_room (Nat.le_of_ble_eq_true rfl)) dX1_cell_26 ⟨Nat.le_of_ble_eq_true rfl, Nat.le_of_ble_eq_true rfl⟩) ?_
          refine gz_ifeqB (tgt := 48) hx hb dX1_cell_29 (by decide) (fun c_7 => ?_) (fun c_7 => ?_)
          · skip
            refine lv_iconst (v := (-1)) hx hb dX1_cell_48 (by decide) ?_
            exact W.iret (v := (-1)) hx hb hr (fun t ht hW => ⟨rfl, ht⟩) (fun q h => absurd h List.not_mem_nil) dX1_cell_49
          · skip
            refine lv_iload_n hx hb dX1_cell_32 rfl (lv_at hl 3 rfl) ?_
            refine lv_bipush (v := nI 6) hx hb dX1_cell_33 (by decide) ?_
            refine gz_icmp_lt (tgt := 50) (za := k.toInt) (zb := ((6 : Nat) : Int)) hx hb dX1_cell_35 (by decide) rfl (nI_toInt (by omega)) (fun c_8 => ?_) (fun c_8 => ?_)
            · skip
              exact False.elim (by omega)
            · skip
              refine lv_iload_n hx hb dX1_cell_38 rfl (lv_at hl 2 rfl) ?_
              refine lv_aload_n hx hb dX1_cell_39 rfl (lv_at hl 0 rfl) ?_
              refine va_get (D := (dC, dI)) (ci := 1) (v := .int (nI cn)) (C := RX1) (T := TX1) (N := 10) hx hb hts hin1 hown hK hP 0 rfl rfl 1 (by decide) lk40 (fun _ h9 => h9) rfl dX1_cell_40 ?_
              refine lv_iconst (v := nI 1) hx hb dX1_cell_43 (by decide) ?_
              refine gz_isub (i := cn) (j := 1) hx hb dX1_cell_44 (by omega) ?_
              refine gz_icmp_eq (tgt := 50) (za := y.toInt) (zb := ((cn - 1 : Nat) : Int)) hx hb dX1_cell_45 (by decide) rfl (nI_toInt (by omega)) (fun c_9 => ?_) (fun c_9 => ?_)
              · skip
                exact False.elim (by omega)
              · skip
                refine lv_iconst (v := (-1)) hx hb dX1_cell_48 (by decide) ?_
                exact W.iret (v := (-1)) hx hb hr (fun t ht hW => ⟨rfl, ht⟩) (fun q h => absurd h List.not_mem_nil) dX1_cell_49
set_option maxHeartbeats 4000000 in
set_option maxRecDepth 100000 in
theorem cM_power (l : Launch) (dC : Nat → ClassId) (dI : Nat → Nat → Nat) (cA cZ : ClassId) (gm ak ac ab al av ah ap : Nat) (fk fc fs fl fp fv ft : Nat → Int32) (rn cn : Nat) (sc : Int32) (i j : Nat) (hrn : 1 ≤ rn ∧ rn ≤ 12) (hcn : 1 ≤ cn ∧ cn ≤ 12) (hi : i < rn) (hj : j ≤ cn) (hsc : ¬ sc = nI 0) (hk6 : j < cn ∨ (fk (i * 12 + (cn - 1))).toInt < 6) (hfp : g01 156 fp) : Met l yX1_power wsX1_power ({ frames := 0, cells := 0, slots := 0, locals := 0 }) (gPr (dC, dI) vwCl [(cA, .int), (cZ, .boolean)] [.ref gm, .int (nI i), .int (nI j)] (mw cA cZ gm ak ac ab al av ah ap fk fc fs fl fp fv ft (nI rn) (nI cn) sc)) (QcRead (fp (i * 13 + j))) 0 0 (fun _ => False) := by
  refine Met.ofW (cc := cX1_power) (maxL := 3) (ret := (some .int)) (by decide) rfl ?_
  intro p e s m args below meth c s₁ B hml hv
  obtain ⟨rfl, hP, hK⟩ := hv
  have hx := B.exec
  have hb := B.bytes
  have hr := B.returns
  have hts := atoms_spec (ws := wsX1_power) B.pre
  have hown : s.vm.findClass RX1 = some m.cls := findClass_of_methodNamed B.named
  have hlocks := B.notSynchronized
  have hin1 : ∀ w ∈ u_ws RX1 TX1 10, w ∈ wsX1_power := by decide +kernel
  have lk36 := hts (.fieldLink RX1 36 "LadderGridModel" "rows" "I") (by decide +kernel)
  have lk40 := hts (.fieldLink RX1 40 "LadderGridModel" "columns" "I") (by decide +kernel)
  have lk43 := hts (.fieldLink RX1 43 "LadderGridModel" "isScanned" "Z") (by decide +kernel)
  have lk7 := hts (.fieldLink RX1 7 "LadderGridModel" "kinds" "[I") (by decide +kernel)
  have lk29 := hts (.fieldLink RX1 29 "LadderGridModel" "hasPower" "[Z") (by decide +kernel)
  have hl := lv_entry ([.ref gm, .int (nI i), .int (nI j)]) (n := 3) (Nat.le_of_ble_eq_true rfl)
  rw [lg_entry_eq]
  generalize (lg_sl ([.ref gm, .int (nI i), .int (nI j)]) ++ List.replicate (3 - (lg_sl ([.ref gm, .int (nI i), .int (nI j)])).length) Slot.unset).toArray = ls at hl ⊢
  have hl : lv_has ls 3 [(0, .ref gm), (1, .int (nI i)), (2, .int (nI j))] := hl
  rcases hfp (i * 13 + j) (by omega) with hf | hf
  · skip
    refine lv_iload_n hx hb dX1_power_0 rfl (lv_at hl 1 rfl) ?_
    refine gz_if_lt (tgt := 60) (za := ((i : Nat) : Int)) hx hb dX1_power_1 (by decide) (nI_toInt (by omega)) (fun c_1 => False.elim (by omega)) (fun c_1 => ?_)
    refine lv_iload_n hx hb dX1_power_4 rfl (lv_at hl 1 rfl) ?_
    refine lv_aload_n hx hb dX1_power_5 rfl (lv_at hl 0 rfl) ?_
    refine va_get (D := (dC, dI)) (ci := 1) (v := .int (nI rn)) (C := RX1) (T := TX1) (N := 10) hx hb hts hin1 hown hK hP 0 rfl rfl 0 (by decide) lk36 (fun _ h9 => h9) rfl dX1_power_6 ?_
    refine gz_icmp_ge (tgt := 60) (za := ((i : Nat) : Int)) (zb := ((rn : Nat) : Int)) hx hb dX1_power_9 (by decide) (nI_toInt (by omega)) (nI_toInt (by omega)) (fun c_2 => False.elim (by omega)) (fun c_2 => ?_)
    refine lv_iload_n hx hb dX1_power_12 rfl (lv_at hl 2 rfl) ?_
    refine gz_if_lt (tgt := 60) (za := ((j : Nat) : Int)) hx hb dX1_power_13 (by decide) (nI_toInt (by omega)) (fun c_3 => False.elim (by omega)) (fun c_3 => ?_)
    refine lv_iload_n hx hb dX1_power_16 rfl (lv_at hl 2 rfl) ?_
    refine lv_aload_n hx hb dX1_power_17 rfl (lv_at hl 0 rfl) ?_
    refine va_get (D := (dC, dI)) (ci := 1) (v := .int (nI cn)) (C := RX1) (T := TX1) (N := 10) hx hb hts hin1 hown hK hP 0 rfl rfl 1 (by decide) lk40 (fun _ h9 => h9) rfl dX1_power_18 ?_
    refine gz_icmp_gt (tgt := 60) (za := ((j : Nat) : Int)) (zb := ((cn : Nat) : Int)) hx hb dX1_power_21 (by decide) (nI_toInt (by omega)) (nI_toInt (by omega)) (fun c_4 => False.elim (by omega)) (fun c_4 => ?_)
    refine lv_aload_n hx hb dX1_power_24 rfl (lv_at hl 0 rfl) ?_
    refine va_get (D := (dC, dI)) (ci := 1) (v := .int (sc)) (C := RX1) (T := TX1) (N := 10) hx hb hts hin1 hown hK hP 0 rfl rfl 9 (by decide) lk43 (fun _ h9 => h9) rfl dX1_power_25 ?_
    refine lv_if_eq (tgt := 60) hx hb dX1_power_28 (by decide) (fun c_5 => False.elim (hsc c_5)) (fun c_5 => ?_)
    refine lv_iload_n hx hb dX1_power_31 rfl (lv_at hl 2 rfl) ?_
    refine lv_aload_n hx hb dX1_power_32 rfl (lv_at hl 0 rfl) ?_
    refine va_get (D := (dC, dI)) (ci := 1) (v := .int (nI cn)) (C := RX1) (T := TX1) (N := 10) hx hb hts hin1 hown hK hP 0 rfl rfl 1 (by decide) lk40 (fun _ h9 => h9) rfl dX1_power_33 ?_
    refine gz_icmp_ne (tgt := 62) (za := ((j : Nat) : Int)) (zb := ((cn : Nat) : Int)) hx hb dX1_power_36 (by decide) (nI_toInt (by omega)) (nI_toInt (by omega)) (fun c_6 => ?_) (fun c_6 => ?_)
    · skip
      refine lv_aload_n hx hb dX1_power_62 rfl (lv_at hl 0 rfl) ?_
      refine va_get (D := (dC, dI)) (ci := 1) (v := .ref ap) (C := RX1) (T := TX1) (N := 10) hx hb hts hin1 hown hK hP 0 rfl rfl 8 (by decide) lk29 (fun _ h9 => h9) rfl dX1_power_63 ?_
      refine lv_bipush (v := nI 13) hx hb dX1_power_66 (by decide) ?_
      refine lv_iload_n hx hb dX1_power_68 rfl (lv_at hl 1 rfl) ?_
      refine gz_imulc (i := 13) (j := i) hx hb dX1_power_69 ?_
      refine lv_iload_n hx hb dX1_power_70 rfl (lv_at hl 2 rfl) ?_
      refine gz_iadd (i := i * 13) (j := j) hx hb dX1_power_71 ?_
      refine gz_zald (k := (i * 13) + j) hx hb hK hP 7 1 rfl rfl (by omega) (by omega) dX1_power_72 ?_
      refine lv_if_eq (tgt := 80) hx hb dX1_power_73 (by decide) (fun c_7 => ?_) (fun c_7 => False.elim (c_7 hf))
      refine lv_iconst (v := nI 0) hx hb dX1_power_80 (by decide) ?_
      exact W.iret (v := nI 0) hx hb hr (fun t ht hW => ⟨(by rw [hf]), ht⟩) (fun q h => absurd h List.not_mem_nil) dX1_power_81
    · skip
      refine lv_aload_n hx hb dX1_power_39 rfl (lv_at hl 0 rfl) ?_
      refine va_get (D := (dC, dI)) (ci := 1) (v := .ref ak) (C := RX1) (T := TX1) (N := 10) hx hb hts hin1 hown hK hP 0 rfl rfl 2 (by decide) lk7 (fun _ h9 => h9) rfl dX1_power_40 ?_
      refine lv_bipush (v := nI 12) hx hb dX1_power_43 (by decide) ?_
      refine lv_iload_n hx hb dX1_power_45 rfl (lv_at hl 1 rfl) ?_
      refine gz_imulc (i := 12) (j := i) hx hb dX1_power_46 ?_
      refine lv_aload_n hx hb dX1_power_47 rfl (lv_at hl 0 rfl) ?_
      refine va_get (D := (dC, dI)) (ci := 1) (v := .int (nI cn)) (C := RX1) (T := TX1) (N := 10) hx hb hts hin1 hown hK hP 0 rfl rfl 1 (by decide) lk40 (fun _ h9 => h9) rfl dX1_power_48 ?_
      refine gz_iadd (i := i * 12) (j := cn) hx hb dX1_power_51 ?_
      refine lv_iconst (v := nI 1) hx hb dX1_power_52 (by decide) ?_
      refine gz_isub (i := (i * 12) + cn) (j := 1) hx hb dX1_power_53 (by omega) ?_
      refine gz_top (j := i * 12 + (cn - 1)) (by omega) ?_
      refine gz_iald (k := i * 12 + (cn - 1)) hx hb hK hP 1 0 rfl rfl (by omega) (by omega) dX1_power_54 ?_
      refine lv_bipush (v := nI 6) hx hb dX1_power_55 (by decide) ?_
      refine gz_icmp_lt (tgt := 62) (za := (fk (i * 12 + (cn - 1))).toInt) (zb := ((6 : Nat) : Int)) hx hb dX1_power_57 (by decide) rfl (nI_toInt (by omega)) (fun c_8 => ?_) (fun c_8 => False.elim (by omega))
      refine lv_aload_n hx hb dX1_power_62 rfl (lv_at hl 0 rfl) ?_
      refine va_get (D := (dC, dI)) (ci := 1) (v := .ref ap) (C := RX1) (T := TX1) (N := 10) hx hb hts hin1 hown hK hP 0 rfl rfl 8 (by decide) lk29 (fun _ h9 => h9) rfl dX1_power_63 ?_
      refine lv_bipush (v := nI 13) hx hb dX1_power_66 (by decide) ?_
      refine lv_iload_n hx hb dX1_power_68 rfl (lv_at hl 1 rfl) ?_
      refine gz_imulc (i := 13) (j := i) hx hb dX1_power_69 ?_
      refine lv_iload_n hx hb dX1_power_70 rfl (lv_at hl 2 rfl) ?_
      refine gz_iadd (i := i * 13) (j := j) hx hb dX1_power_71 ?_
      refine gz_zald (k := (i * 13) + j) hx hb hK hP 7 1 rfl rfl (by omega) (by omega) dX1_power_72 ?_
      refine lv_if_eq (tgt := 80) hx hb dX1_power_73 (by decide) (fun c_9 => ?_) (fun c_9 => False.elim (c_9 hf))
      refine lv_iconst (v := nI 0) hx hb dX1_power_80 (by decide) ?_
      exact W.iret (v := nI 0) hx hb hr (fun t ht hW => ⟨(by rw [hf]), ht⟩) (fun q h => absurd h List.not_mem_nil) dX1_power_81
  · skip
    refine lv_iload_n hx hb dX1_power_0 rfl (lv_at hl 1 rfl) ?_
    refine gz_if_lt (tgt := 60) (za := ((i : Nat) : Int)) hx hb dX1_power_1 (by decide) (nI_toInt (by omega)) (fun c_1 => False.elim (by omega)) (fun c_1 => ?_)
    refine lv_iload_n hx hb dX1_power_4 rfl (lv_at hl 1 rfl) ?_
    refine lv_aload_n hx hb dX1_power_5 rfl (lv_at hl 0 rfl) ?_
    refine va_get (D := (dC, dI)) (ci := 1) (v := .int (nI rn)) (C := RX1) (T := TX1) (N := 10) hx hb hts hin1 hown hK hP 0 rfl rfl 0 (by decide) lk36 (fun _ h9 => h9) rfl dX1_power_6 ?_
    refine gz_icmp_ge (tgt := 60) (za := ((i : Nat) : Int)) (zb := ((rn : Nat) : Int)) hx hb dX1_power_9 (by decide) (nI_toInt (by omega)) (nI_toInt (by omega)) (fun c_2 => False.elim (by omega)) (fun c_2 => ?_)
    refine lv_iload_n hx hb dX1_power_12 rfl (lv_at hl 2 rfl) ?_
    refine gz_if_lt (tgt := 60) (za := ((j : Nat) : Int)) hx hb dX1_power_13 (by decide) (nI_toInt (by omega)) (fun c_3 => False.elim (by omega)) (fun c_3 => ?_)
    refine lv_iload_n hx hb dX1_power_16 rfl (lv_at hl 2 rfl) ?_
    refine lv_aload_n hx hb dX1_power_17 rfl (lv_at hl 0 rfl) ?_
    refine va_get (D := (dC, dI)) (ci := 1) (v := .int (nI cn)) (C := RX1) (T := TX1) (N := 10) hx hb hts hin1 hown hK hP 0 rfl rfl 1 (by decide) lk40 (fun _ h9 => h9) rfl dX1_power_18 ?_
    refine gz_icmp_gt (tgt := 60) (za := ((j : Nat) : Int)) (zb := ((cn : Nat) : Int)) hx hb dX1_power_21 (by decide) (nI_toInt (by omega)) (nI_toInt (by omega)) (fun c_4 => False.elim (by omega)) (fun c_4 => ?_)
    refine lv_aload_n hx hb dX1_power_24 rfl (lv_at hl 0 rfl) ?_
    refine va_get (D := (dC, dI)) (ci := 1) (v := .int (sc)) (C := RX1) (T := TX1) (N := 10) hx hb hts hin1 hown hK hP 0 rfl rfl 9 (by decide) lk43 (fun _ h9 => h9) rfl dX1_power_25 ?_
    refine lv_if_eq (tgt := 60) hx hb dX1_power_28 (by decide) (fun c_5 => False.elim (hsc c_5)) (fun c_5 => ?_)
    refine lv_iload_n hx hb dX1_power_31 rfl (lv_at hl 2 rfl) ?_
    refine lv_aload_n hx hb dX1_power_32 rfl (lv_at hl 0 rfl) ?_
    refine va_get (D := (dC, dI)) (ci := 1) (v := .int (nI cn)) (C := RX1) (T := TX1) (N := 10) hx hb hts hin1 hown hK hP 0 rfl rfl 1 (by decide) lk40 (fun _ h9 => h9) rfl dX1_power_33 ?_
    refine gz_icmp_ne (tgt := 62) (za := ((j : Nat) : Int)) (zb := ((cn : Nat) : Int)) hx hb dX1_power_36 (by decide) (nI_toInt (by omega)) (nI_toInt (by omega)) (fun c_6 => ?_) (fun c_6 => ?_)
    · skip
      refine lv_aload_n hx hb dX1_power_62 rfl (lv_at hl 0 rfl) ?_
      refine va_get (D := (dC, dI)) (ci := 1) (v := .ref ap) (C := RX1) (T := TX1) (N := 10) hx hb hts hin1 hown hK hP 0 rfl rfl 8 (by decide) lk29 (fun _ h9 => h9) rfl dX1_power_63 ?_
      refine lv_bipush (v := nI 13) hx hb dX1_power_66 (by decide) ?_
      refine lv_iload_n hx hb dX1_power_68 rfl (lv_at hl 1 rfl) ?_
      refine gz_imulc (i := 13) (j := i) hx hb dX1_power_69 ?_
      refine lv_iload_n hx hb dX1_power_70 rfl (lv_at hl 2 rfl) ?_
      refine gz_iadd (i := i * 13) (j := j) hx hb dX1_power_71 ?_
      refine gz_zald (k := (i * 13) + j) hx hb hK hP 7 1 rfl rfl (by omega) (by omega) dX1_power_72 ?_
      refine lv_if_eq (tgt := 80) hx hb dX1_power_73 (by decide) (fun c_7 => False.elim (absurd (hf.symm.trans c_7) (by decide))) (fun c_7 => ?_)
      refine lv_iconst (v := nI 1) hx hb dX1_power_76 (by decide) ?_
      refine lv_goto (tgt := 81) hx hb dX1_power_77 (by decide) ?_
      exact W.iret (v := nI 1) hx hb hr (fun t ht hW => ⟨(by rw [hf]), ht⟩) (fun q h => absurd h List.not_mem_nil) dX1_power_81
    · skip
      refine lv_aload_n hx hb dX1_power_39 rfl (lv_at hl 0 rfl) ?_
      refine va_get (D := (dC, dI)) (ci := 1) (v := .ref ak) (C := RX1) (T := TX1) (N := 10) hx hb hts hin1 hown hK hP 0 rfl rfl 2 (by decide) lk7 (fun _ h9 => h9) rfl dX1_power_40 ?_
      refine lv_bipush (v := nI 12) hx hb dX1_power_43 (by decide) ?_
      refine lv_iload_n hx hb dX1_power_45 rfl (lv_at hl 1 rfl) ?_
      refine gz_imulc (i := 12) (j := i) hx hb dX1_power_46 ?_
      refine lv_aload_n hx hb dX1_power_47 rfl (lv_at hl 0 rfl) ?_
      refine va_get (D := (dC, dI)) (ci := 1) (v := .int (nI cn)) (C := RX1) (T := TX1) (N := 10) hx hb hts hin1 hown hK hP 0 rfl rfl 1 (by decide) lk40 (fun _ h9 => h9) rfl dX1_power_48 ?_
      refine gz_iadd (i := i * 12) (j := cn) hx hb dX1_power_51 ?_
      refine lv_iconst (v := nI 1) hx hb dX1_power_52 (by decide) ?_
      refine gz_isub (i := (i * 12) + cn) (j := 1) hx hb dX1_power_53 (by omega) ?_
      refine gz_top (j := i * 12 + (cn - 1)) (by omega) ?_
      refine gz_iald (k := i * 12 + (cn - 1)) hx hb hK hP 1 0 rfl rfl (by omega) (by omega) dX1_power_54 ?_
      refine lv_bipush (v := nI 6) hx hb dX1_power_55 (by decide) ?_
      refine gz_icmp_lt (tgt := 62) (za := (fk (i * 12 + (cn - 1))).toInt) (zb := ((6 : Nat) : Int)) hx hb dX1_power_57 (by decide) rfl (nI_toInt (by omega)) (fun c_8 => ?_) (fun c_8 => False.elim (by omega))
      refine lv_aload_n hx hb dX1_power_62 rfl (lv_at hl 0 rfl) ?_
      refine va_get (D := (dC, dI)) (ci := 1) (v := .ref ap) (C := RX1) (T := TX1) (N := 10) hx hb hts hin1 hown hK hP 0 rfl rfl 8 (by decide) lk29 (fun _ h9 => h9) rfl dX1_power_63 ?_
      refine lv_bipush (v := nI 13) hx hb dX1_power_66 (by decide) ?_
      refine lv_iload_n hx hb dX1_power_68 rfl (lv_at hl 1 rfl) ?_
      refine gz_imulc (i := 13) (j := i) hx hb dX1_power_69 ?_
      refine lv_iload_n hx hb dX1_power_70 rfl (lv_at hl 2 rfl) ?_
      refine gz_iadd (i := i * 13) (j := j) hx hb dX1_power_71 ?_
      refine gz_zald (k := (i * 13) + j) hx hb hK hP 7 1 rfl rfl (by omega) (by omega) dX1_power_72 ?_
      refine lv_if_eq (tgt := 80) hx hb dX1_power_73 (by decide) (fun c_9 => False.elim (absurd (hf.symm.trans c_9) (by decide))) (fun c_9 => ?_)
      refine lv_iconst (v := nI 1) hx hb dX1_power_76 (by decide) ?_
      refine lv_goto (tgt := 81) hx hb dX1_power_77 (by decide) ?_
      exact W.iret (v := nI 1) hx hb hr (fun t ht hW => ⟨(by rw [hf]), ht⟩) (fun q h => absurd h List.not_mem_nil) dX1_power_81
set_option maxHeartbeats 4000000 in
set_option maxRecDepth 100000 in
theorem cM_power_bad (l : Launch) (dC : Nat → ClassId) (dI : Nat → Nat → Nat) (cA cZ : ClassId) (gm ak ac ab al av ah ap : Nat) (fk fc fs fl fp fv ft : Nat → Int32) (rn cn : Nat) (sc : Int32) (x y : Int32) (hrn : 1 ≤ rn ∧ rn ≤ 12) (hcn : 1 ≤ cn ∧ cn ≤ 12) (hx0 : ¬ (0 ≤ x.toInt ∧ x.toInt < (rn : Int)) ∨ ¬ (0 ≤ y.toInt ∧ y.toInt ≤ (cn : Int)) ∨ sc = nI 0) : Met l yX1_power wsX1_power ({ frames := 0, cells := 0, slots := 0, locals := 0 }) (gPr (dC, dI) vwCl [(cA, .int), (cZ, .boolean)] [.ref gm, .int x, .int y] (mw cA cZ gm ak ac ab al av ah ap fk fc fs fl fp fv ft (nI rn) (nI cn) sc)) (QcRead (-1)) 0 0 (fun _ => False) := by
  refine Met.ofW (cc := cX1_power) (maxL := 3) (ret := (some .int)) (by decide) rfl ?_
  intro p e s m args below meth c s₁ B hml hv
  obtain ⟨rfl, hP, hK⟩ := hv
  have hx := B.exec
  have hb := B.bytes
  have hr := B.returns
  have hts := atoms_spec (ws := wsX1_power) B.pre
  have hown : s.vm.findClass RX1 = some m.cls := findClass_of_methodNamed B.named
  have hlocks := B.notSynchronized
  have hin1 : ∀ w ∈ u_ws RX1 TX1 10, w ∈ wsX1_power := by decide +kernel
  have lk36 := hts (.fieldLink RX1 36 "LadderGridModel" "rows" "I") (by decide +kernel)
  have lk40 := hts (.fieldLink RX1 40 "LadderGridModel" "columns" "I") (by decide +kernel)
  have lk43 := hts (.fieldLink RX1 43 "LadderGridModel" "isScanned" "Z") (by decide +kernel)
  have lk7 := hts (.fieldLink RX1 7 "LadderGridModel" "kinds" "[I") (by decide +kernel)
  have lk29 := hts (.fieldLink RX1 29 "LadderGridModel" "hasPower" "[Z") (by decide +kernel)
  have hl := lv_entry ([.ref gm, .int x, .int y]) (n := 3) (Nat.le_of_ble_eq_true rfl)
  rw [lg_entry_eq]
  generalize (lg_sl ([.ref gm, .int x, .int y]) ++ List.replicate (3 - (lg_sl ([.ref gm, .int x, .int y])).length) Slot.unset).toArray = ls at hl ⊢
  have hl : lv_has ls 3 [(0, .ref gm), (1, .int (x)), (2, .int (y))] := hl
  refine lv_iload_n hx hb dX1_power_0 rfl (lv_at hl 1 rfl) ?_
  refine gz_if_lt (tgt := 60) (za := x.toInt) hx hb dX1_power_1 (by decide) rfl (fun c_1 => ?_) (fun c_1 => ?_)
  · skip
    refine lv_iconst (v := (-1)) hx hb dX1_power_60 (by decide) ?_
    exact W.iret (v := (-1)) hx hb hr (fun t ht hW => ⟨rfl, ht⟩) (fun q h => absurd h List.not_mem_nil) dX1_power_61
  · skip
    refine lv_iload_n hx hb dX1_power_4 rfl (lv_at hl 1 rfl) ?_
    refine lv_aload_n hx hb dX1_power_5 rfl (lv_at hl 0 rfl) ?_
    refine va_get (D := (dC, dI)) (ci := 1) (v := .int (nI rn)) (C := RX1) (T := TX1) (N := 10) hx hb hts hin1 hown hK hP 0 rfl rfl 0 (by decide) lk36 (fun _ h9 => h9) rfl dX1_power_6 ?_
    refine gz_icmp_ge (tgt := 60) (za := x.toInt) (zb := ((rn : Nat) : Int)) hx hb dX1_power_9 (by decide) rfl (nI_toInt (by omega)) (fun c_2 => ?_) (fun c_2 => ?_)
    · skip
      refine lv_iconst (v := (-1)) hx hb dX1_power_60 (by decide) ?_
      exact W.iret (v := (-1)) hx hb hr (fun t ht hW => ⟨rfl, ht⟩) (fun q h => absurd h List.not_mem_nil) dX1_power_61
    · skip
      refine lv_iload_n hx hb dX1_power_12 rfl (lv_at hl 2 rfl) ?_
      refine gz_if_lt (tgt := 60) (za := y.toInt) hx hb dX1_power_13 (by decide) rfl (fun c_3 => ?_) (fun c_3 => ?_)
      · skip
        refine lv_iconst (v := (-1)) hx hb dX1_power_60 (by decide) ?_
        exact W.iret (v := (-1)) hx hb hr (fun t ht hW => ⟨rfl, ht⟩) (fun q h => absurd h List.not_mem_nil) dX1_power_61
      · skip
        refine lv_iload_n hx hb dX1_power_16 rfl (lv_at hl 2 rfl) ?_
        refine lv_aload_n hx hb dX1_power_17 rfl (lv_at hl 0 rfl) ?_
        refine va_get (D := (dC, dI)) (ci := 1) (v := .int (nI cn)) (C := RX1) (T := TX1) (N := 10) hx hb hts hin1 hown hK hP 0 rfl rfl 1 (by decide) lk40 (fun _ h9 => h9) rfl dX1_power_18 ?_
        refine gz_icmp_gt (tgt := 60) (za := y.toInt) (zb := ((cn : Nat) : Int)) hx hb dX1_power_21 (by decide) rfl (nI_toInt (by omega)) (fun c_4 => ?_) (fun c_4 => ?_)
        · skip
          refine lv_iconst (v := (-1)) hx hb dX1_power_60 (by decide) ?_
          exact W.iret (v := (-1)) hx hb hr (fun t ht hW => ⟨rfl, ht⟩) (fun q h => absurd h List.not_mem_nil) dX1_power_61
        · skip
          refine lv_aload_n hx hb dX1_power_24 rfl (lv_at hl 0 rfl) ?_
          refine va_get (D := (dC, dI)) (ci := 1) (v := .int (sc)) (C := RX1) (T := TX1) (N := 10) hx hb hts hin1 hown hK hP 0 rfl rfl 9 (by decide) lk43 (fun _ h9 => h9) rfl dX1_power_25 ?_
          refine lv_if_eq (tgt := 60) hx hb dX1_power_28 (by decide) (fun c_5 => ?_) (fun c_5 => False.elim (by rcases hx0 with hq | hq | hq; omega; omega; exact c_5 hq))
          refine lv_iconst (v := (-1)) hx hb dX1_power_60 (by decide) ?_
          exact W.iret (v := (-1)) hx hb hr (fun t ht hW => ⟨rfl, ht⟩) (fun q h => absurd h List.not_mem_nil) dX1_power_61
set_option maxHeartbeats 4000000 in
set_option maxRecDepth 100000 in
theorem cM_power_coil (l : Launch) (dC : Nat → ClassId) (dI : Nat → Nat → Nat) (cA cZ : ClassId) (gm ak ac ab al av ah ap : Nat) (fk fc fs fl fp fv ft : Nat → Int32) (rn cn : Nat) (sc : Int32) (i : Nat) (hrn : 1 ≤ rn ∧ rn ≤ 12) (hcn : 1 ≤ cn ∧ cn ≤ 12) (hi : i < rn) (hsc : ¬ sc = nI 0) (hk6 : 6 ≤ (fk (i * 12 + (cn - 1))).toInt) : Met l yX1_power wsX1_power ({ frames := 0, cells := 0, slots := 0, locals := 0 }) (gPr (dC, dI) vwCl [(cA, .int), (cZ, .boolean)] [.ref gm, .int (nI i), .int (nI cn)] (mw cA cZ gm ak ac ab al av ah ap fk fc fs fl fp fv ft (nI rn) (nI cn) sc)) (QcRead (-1)) 0 0 (fun _ => False) := by
  refine Met.ofW (cc := cX1_power) (maxL := 3) (ret := (some .int)) (by decide) rfl ?_
  intro p e s m args below meth c s₁ B hml hv
  obtain ⟨rfl, hP, hK⟩ := hv
  have hx := B.exec
  have hb := B.bytes
  have hr := B.returns
  have hts := atoms_spec (ws := wsX1_power) B.pre
  have hown : s.vm.findClass RX1 = some m.cls := findClass_of_methodNamed B.named
  have hlocks := B.notSynchronized
  have hin1 : ∀ w ∈ u_ws RX1 TX1 10, w ∈ wsX1_power := by decide +kernel
  have lk36 := hts (.fieldLink RX1 36 "LadderGridModel" "rows" "I") (by decide +kernel)
  have lk40 := hts (.fieldLink RX1 40 "LadderGridModel" "columns" "I") (by decide +kernel)
  have lk43 := hts (.fieldLink RX1 43 "LadderGridModel" "isScanned" "Z") (by decide +kernel)
  have lk7 := hts (.fieldLink RX1 7 "LadderGridModel" "kinds" "[I") (by decide +kernel)
  have lk29 := hts (.fieldLink RX1 29 "LadderGridModel" "hasPower" "[Z") (by decide +kernel)
  have hl := lv_entry ([.ref gm, .int (nI i), .int (nI cn)]) (n := 3) (Nat.le_of_ble_eq_true rfl)
  rw [lg_entry_eq]
  generalize (lg_sl ([.ref gm, .int (nI i), .int (nI cn)]) ++ List.replicate (3 - (lg_sl ([.ref gm, .int (nI i), .int (nI cn)])).length) Slot.unset).toArray = ls at hl ⊢
  have hl : lv_has ls 3 [(0, .ref gm), (1, .int (nI i)), (2, .int (nI cn))] := hl
  refine lv_iload_n hx hb dX1_power_0 rfl (lv_at hl 1 rfl) ?_
  refine gz_if_lt (tgt := 60) (za := ((i : Nat) : Int)) hx hb dX1_power_1 (by decide) (nI_toInt (by omega)) (fun c_1 => False.elim (by omega)) (fun c_1 => ?_)
  refine lv_iload_n hx hb dX1_power_4 rfl (lv_at hl 1 rfl) ?_
  refine lv_aload_n hx hb dX1_power_5 rfl (lv_at hl 0 rfl) ?_
  refine va_get (D := (dC, dI)) (ci := 1) (v := .int (nI rn)) (C := RX1) (T := TX1) (N := 10) hx hb hts hin1 hown hK hP 0 rfl rfl 0 (by decide) lk36 (fun _ h9 => h9) rfl dX1_power_6 ?_
  refine gz_icmp_ge (tgt := 60) (za := ((i : Nat) : Int)) (zb := ((rn : Nat) : Int)) hx hb dX1_power_9 (by decide) (nI_toInt (by omega)) (nI_toInt (by omega)) (fun c_2 => False.elim (by omega)) (fun c_2 => ?_)
  refine lv_iload_n hx hb dX1_power_12 rfl (lv_at hl 2 rfl) ?_
  refine gz_if_lt (tgt := 60) (za := ((cn : Nat) : Int)) hx hb dX1_power_13 (by decide) (nI_toInt (by omega)) (fun c_3 => False.elim (by omega)) (fun c_3 => ?_)
  refine lv_iload_n hx hb dX1_power_16 rfl (lv_at hl 2 rfl) ?_
  refine lv_aload_n hx hb dX1_power_17 rfl (lv_at hl 0 rfl) ?_
  refine va_get (D := (dC, dI)) (ci := 1) (v := .int (nI cn)) (C := RX1) (T := TX1) (N := 10) hx hb hts hin1 hown hK hP 0 rfl rfl 1 (by decide) lk40 (fun _ h9 => h9) rfl dX1_power_18 ?_
  refine gz_icmp_gt (tgt := 60) (za := ((cn : Nat) : Int)) (zb := ((cn : Nat) : Int)) hx hb dX1_power_21 (by decide) (nI_toInt (by omega)) (nI_toInt (by omega)) (fun c_4 => False.elim (by omega)) (fun c_4 => ?_)
  refine lv_aload_n hx hb dX1_power_24 rfl (lv_at hl 0 rfl) ?_
  refine va_get (D := (dC, dI)) (ci := 1) (v := .int (sc)) (C := RX1) (T := TX1) (N := 10) hx hb hts hin1 hown hK hP 0 rfl rfl 9 (by decide) lk43 (fun _ h9 => h9) rfl dX1_power_25 ?_
  refine lv_if_eq (tgt := 60) hx hb dX1_power_28 (by decide) (fun c_5 => False.elim (hsc c_5)) (fun c_5 => ?_)
  refine lv_iload_n hx hb dX1_power_31 rfl (lv_at hl 2 rfl) ?_
  refine lv_aload_n hx hb dX1_power_32 rfl (lv_at hl 0 rfl) ?_
  refine va_get (D := (dC, dI)) (ci := 1) (v := .int (nI cn)) (C := RX1) (T := TX1) (N := 10) hx hb hts hin1 hown hK hP 0 rfl rfl 1 (by decide) lk40 (fun _ h9 => h9) rfl dX1_power_33 ?_
  refine gz_icmp_ne (tgt := 62) (za := ((cn : Nat) : Int)) (zb := ((cn : Nat) : Int)) hx hb dX1_power_36 (by decide) (nI_toInt (by omega)) (nI_toInt (by omega)) (fun c_6 => False.elim (by omega)) (fun c_6 => ?_)
  refine lv_aload_n hx hb dX1_power_39 rfl (lv_at hl 0 rfl) ?_
  refine va_get (D := (dC, dI)) (ci := 1) (v := .ref ak) (C := RX1) (T := TX1) (N := 10) hx hb hts hin1 hown hK hP 0 rfl rfl 2 (by decide) lk7 (fun _ h9 => h9) rfl dX1_power_40 ?_
  refine lv_bipush (v := nI 12) hx hb dX1_power_43 (by decide) ?_
  refine lv_iload_n hx hb dX1_power_45 rfl (lv_at hl 1 rfl) ?_
  refine gz_imulc (i := 12) (j := i) hx hb dX1_power_46 ?_
  refine lv_aload_n hx hb dX1_power_47 rfl (lv_at hl 0 rfl) ?_
  refine va_get (D := (dC, dI)) (ci := 1) (v := .int (nI cn)) (C := RX1) (T := TX1) (N := 10) hx hb hts hin1 hown hK hP 0 rfl rfl 1 (by decide) lk40 (fun _ h9 => h9) rfl dX1_power_48 ?_
  refine gz_iadd (i := i * 12) (j := cn) hx hb dX1_power_51 ?_
  refine lv_iconst (v := nI 1) hx hb dX1_power_52 (by decide) ?_
  refine gz_isub (i := (i * 12) + cn) (j := 1) hx hb dX1_power_53 (by omega) ?_
  refine gz_top (j := i * 12 + (cn - 1)) (by omega) ?_
  refine gz_iald (k := i * 12 + (cn - 1)) hx hb hK hP 1 0 rfl rfl (by omega) (by omega) dX1_power_54 ?_
  refine lv_bipush (v := nI 6) hx hb dX1_power_55 (by decide) ?_
  refine gz_icmp_lt (tgt := 62) (za := (fk (i * 12 + (cn - 1))).toInt) (zb := ((6 : Nat) : Int)) hx hb dX1_power_57 (by decide) rfl (nI_toInt (by omega)) (fun c_7 => False.elim (by omega)) (fun c_7 => ?_)
  refine lv_iconst (v := (-1)) hx hb dX1_power_60 (by decide) ?_
  exact W.iret (v := (-1)) hx hb hr (fun t ht hW => ⟨rfl, ht⟩) (fun q h => absurd h List.not_mem_nil) dX1_power_61
set_option maxHeartbeats 4000000 in
set_option maxRecDepth 100000 in
theorem cM_groups_bad (l : Launch) (dC : Nat → ClassId) (dI : Nat → Nat → Nat) (cA cZ : ClassId) (gm ak ac ab al av ah ap : Nat) (fk fc fs fl fp fv ft : Nat → Int32) (rn cn : Nat) (sc : Int32) (x : Int32) (hrn : 1 ≤ rn ∧ rn ≤ 12) (hcn : 1 ≤ cn ∧ cn ≤ 12) (hx0 : ¬ (0 ≤ x.toInt ∧ x.toInt ≤ (cn : Int))) : Met l yX1_groups wsX1_groups ({ frames := 0, cells := 0, slots := 0, locals := 0 }) (gPr (dC, dI) vwCl [(cA, .int), (cZ, .boolean)] [.ref gm, .int x] (mw cA cZ gm ak ac ab al av ah ap fk fc fs fl fp fv ft (nI rn) (nI cn) sc)) (QcRead (-1)) 0 0 (fun _ => False) := by
  refine Met.ofW (cc := cX1_groups) (maxL := 4) (ret := (some .int)) (by decide) rfl ?_
  intro p e s m args below meth c s₁ B hml hv
  obtain ⟨rfl, hP, hK⟩ := hv
  have hx := B.exec
  have hb := B.bytes
  have hr := B.returns
  have hts := atoms_spec (ws := wsX1_groups) B.pre
  have hown : s.vm.findClass RX1 = some m.cls := findClass_of_methodNamed B.named
  have hlocks := B.notSynchronized
  have hin1 : ∀ w ∈ u_ws RX1 TX1 10, w ∈ wsX1_groups := by decide +kernel
  have lk40 := hts (.fieldLink RX1 40 "LadderGridModel" "columns" "I") (by decide +kernel)
  have lk36 := hts (.fieldLink RX1 36 "LadderGridModel" "rows" "I") (by decide +kernel)
  have lk19 := hts (.fieldLink RX1 19 "LadderGridModel" "isLinked" "[Z") (by decide +kernel)
  have hl := lv_entry ([.ref gm, .int x]) (n := 4) (Nat.le_of_ble_eq_true rfl)
  rw [lg_entry_eq]
  generalize (lg_sl ([.ref gm, .int x]) ++ List.replicate (4 - (lg_sl ([.ref gm, .int x])).length) Slot.unset).toArray = ls at hl ⊢
  have hl : lv_has ls 4 [(0, .ref gm), (1, .int (x))] := hl
  refine lv_iload_n hx hb dX1_groups_0 rfl (lv_at hl 1 rfl) ?_
  refine gz_if_lt (tgt := 12) (za := x.toInt) hx hb dX1_groups_1 (by decide) rfl (fun c_1 => ?_) (fun c_1 => ?_)
  · skip
    refine lv_iconst (v := (-1)) hx hb dX1_groups_12 (by decide) ?_
    exact W.iret (v := (-1)) hx hb hr (fun t ht hW => ⟨rfl, ht⟩) (fun q h => absurd h List.not_mem_nil) dX1_groups_13
  · skip
    refine lv_iload_n hx hb dX1_groups_4 rfl (lv_at hl 1 rfl) ?_
    refine lv_aload_n hx hb dX1_groups_5 rfl (lv_at hl 0 rfl) ?_
    refine va_get (D := (dC, dI)) (ci := 1) (v := .int (nI cn)) (C := RX1) (T := TX1) (N := 10) hx hb hts hin1 hown hK hP 0 rfl rfl 1 (by decide) lk40 (fun _ h9 => h9) rfl dX1_groups_6 ?_
    refine gz_icmp_le (tgt := 14) (za := x.toInt) (zb := ((cn : Nat) : Int)) hx hb dX1_groups_9 (by decide) rfl (nI_toInt (by omega)) (fun c_2 => False.elim (by omega)) (fun c_2 => ?_)
    refine lv_iconst (v := (-1)) hx hb dX1_groups_12 (by decide) ?_
    exact W.iret (v := (-1)) hx hb hr (fun t ht hW => ⟨rfl, ht⟩) (fun q h => absurd h List.not_mem_nil) dX1_groups_13
set_option maxHeartbeats 4000000 in
set_option maxRecDepth 100000 in
theorem cM_groups (l : Launch) (dC : Nat → ClassId) (dI : Nat → Nat → Nat) (cA cZ : ClassId) (gm ak ac ab al av ah ap : Nat) (fk fc fs fl fp fv ft : Nat → Int32) (rn cn : Nat) (sc : Int32) (j : Nat) (hrn : 1 ≤ rn ∧ rn ≤ 12) (hcn : 1 ≤ cn ∧ cn ≤ 12) (hj : j ≤ cn) (hfl : g01 156 fl) (hlk : gLk fl rn cn) : Met l yX1_groups wsX1_groups ({ frames := 0, cells := 0, slots := 0, locals := 0 }) (gPr (dC, dI) vwCl [(cA, .int), (cZ, .boolean)] [.ref gm, .int (nI j)] (mw cA cZ gm ak ac ab al av ah ap fk fc fs fl fp fv ft (nI rn) (nI cn) sc)) (QcRead (nI (rn - gGr fl j rn))) 0 0 (fun _ => False) := by
  refine Met.ofW (cc := cX1_groups) (maxL := 4) (ret := (some .int)) (by decide) rfl ?_
  intro p e s m args below meth c s₁ B hml hv
  obtain ⟨rfl, hP, hK⟩ := hv
  have hx := B.exec
  have hb := B.bytes
  have hr := B.returns
  have hts := atoms_spec (ws := wsX1_groups) B.pre
  have hown : s.vm.findClass RX1 = some m.cls := findClass_of_methodNamed B.named
  have hlocks := B.notSynchronized
  have hin1 : ∀ w ∈ u_ws RX1 TX1 10, w ∈ wsX1_groups := by decide +kernel
  have lk40 := hts (.fieldLink RX1 40 "LadderGridModel" "columns" "I") (by decide +kernel)
  have lk36 := hts (.fieldLink RX1 36 "LadderGridModel" "rows" "I") (by decide +kernel)
  have lk19 := hts (.fieldLink RX1 19 "LadderGridModel" "isLinked" "[Z") (by decide +kernel)
  have hl := lv_entry ([.ref gm, .int (nI j)]) (n := 4) (Nat.le_of_ble_eq_true rfl)
  rw [lg_entry_eq]
  generalize (lg_sl ([.ref gm, .int (nI j)]) ++ List.replicate (4 - (lg_sl ([.ref gm, .int (nI j)])).length) Slot.unset).toArray = ls at hl ⊢
  have hl : lv_has ls 4 [(0, .ref gm), (1, .int (nI j))] := hl
  have loop : ∀ (n : Nat) (i : Nat), i + n + 1 = rn → ∀ (ls : Array Slot), lv_has ls 4 [(3, .int (nI i)), (2, .int (nI (rn - gGr fl j i))), (0, .ref gm), (1, .int (nI j))] → W p l e (headSpec wsX1_groups ({ frames := 0, cells := 0, slots := 0, locals := 0 })).room s m ([.ref gm, .int (nI j)] : List Value).toArray below meth c s.heap [] 0 0 (MQ below (QcRead (nI (rn - gGr fl j rn))) ([.ref gm, .int (nI j)] : List Value).toArray s 0 0 (fun _ => False)) (F0 m 21 ls []) := by
    intro n
    induction n with
    | zero =>
      intro i hi ls hl
      refine lv_iload_n hx hb dX1_groups_21 rfl (lv_at hl 0 rfl) ?_
      refine lv_iconst (v := nI 1) hx hb dX1_groups_22 (by decide) ?_
      refine gz_iadd (i := i) (j := 1) hx hb dX1_groups_23 ?_
      refine lv_aload_n hx hb dX1_groups_24 rfl (lv_at hl 2 rfl) ?_
      refine va_get (D := (dC, dI)) (ci := 1) (v := .int (nI rn)) (C := RX1) (T := TX1) (N := 10) hx hb hts hin1 hown hK hP 0 rfl rfl 0 (by decide) lk36 (fun _ h9 => h9) rfl dX1_groups_25 ?_
      refine gz_icmp_ge (tgt := 71) (za := ((i + 1 : Nat) : Int)) (zb := ((rn : Nat) : Int)) hx hb dX1_groups_28 (by decide) (nI_toInt (by omega)) (nI_toInt (by omega)) (fun c_1 => ?_) (fun c_1 => False.elim (by omega))
      refine lv_iload_n hx hb dX1_groups_71 rfl (lv_at hl 1 rfl) ?_
      exact W.iret (v := nI (rn - gGr fl j i)) hx hb hr (fun t ht hW => ⟨(by rw [gGr_end hrn hj hcn.2 hlk, show rn - 1 = i by omega]), ht⟩) (fun q h => absurd h List.not_mem_nil) dX1_groups_72
    | succ n ih =>
      intro i hi ls hl
      have hgi := gGr_le fl j i
      have e : gGr fl j (i + 1) = (if fl (i * 13 + j) = nI 1 then gGr fl j i + 1 else gGr fl j i) := rfl
      by_cases hf : fl (i * 13 + j) = nI 1
      · have hb3 := hlk i j (by omega) (by omega) hf
        refine lv_iload_n hx hb dX1_groups_21 rfl (lv_at hl 0 rfl) ?_
        refine lv_iconst (v := nI 1) hx hb dX1_groups_22 (by decide) ?_
        refine gz_iadd (i := i) (j := 1) hx hb dX1_groups_23 ?_
        refine lv_aload_n hx hb dX1_groups_24 rfl (lv_at hl 2 rfl) ?_
        refine va_get (D := (dC, dI)) (ci := 1) (v := .int (nI rn)) (C := RX1) (T := TX1) (N := 10) hx hb hts hin1 hown hK hP 0 rfl rfl 0 (by decide) lk36 (fun _ h9 => h9) rfl dX1_groups_25 ?_
        refine gz_icmp_ge (tgt := 71) (za := ((i + 1 : Nat) : Int)) (zb := ((rn : Nat) : Int)) hx hb dX1_groups_28 (by decide) (nI_toInt (by omega)) (nI_toInt (by omega)) (fun c_1 => False.elim (by omega)) (fun c_1 => ?_)
        refine lv_iload_n hx hb dX1_groups_31 rfl (lv_at hl 3 rfl) ?_
        refine gz_if_le (tgt := 63) (za := ((j : Nat) : Int)) hx hb dX1_groups_32 (by decide) (nI_toInt (by omega)) (fun c_2 => False.elim (by omega)) (fun c_2 => ?_)
        refine lv_iload_n hx hb dX1_groups_35 rfl (lv_at hl 3 rfl) ?_
        refine lv_aload_n hx hb dX1_groups_36 rfl (lv_at hl 2 rfl) ?_
        refine va_get (D := (dC, dI)) (ci := 1) (v := .int (nI cn)) (C := RX1) (T := TX1) (N := 10) hx hb hts hin1 hown hK hP 0 rfl rfl 1 (by decide) lk40 (fun _ h9 => h9) rfl dX1_groups_37 ?_
        refine gz_icmp_ge (tgt := 63) (za := ((j : Nat) : Int)) (zb := ((cn : Nat) : Int)) hx hb dX1_groups_40 (by decide) (nI_toInt (by omega)) (nI_toInt (by omega)) (fun c_3 => False.elim (by omega)) (fun c_3 => ?_)
        refine lv_aload_n hx hb dX1_groups_43 rfl (lv_at hl 2 rfl) ?_
        refine va_get (D := (dC, dI)) (ci := 1) (v := .ref al) (C := RX1) (T := TX1) (N := 10) hx hb hts hin1 hown hK hP 0 rfl rfl 5 (by decide) lk19 (fun _ h9 => h9) rfl dX1_groups_44 ?_
        refine lv_bipush (v := nI 13) hx hb dX1_groups_47 (by decide) ?_
        refine lv_iload_n hx hb dX1_groups_49 rfl (lv_at hl 0 rfl) ?_
        refine gz_imulc (i := 13) (j := i) hx hb dX1_groups_50 ?_
        refine lv_iload_n hx hb dX1_groups_51 rfl (lv_at hl 3 rfl) ?_
        refine gz_iadd (i := i * 13) (j := j) hx hb dX1_groups_52 ?_
        refine gz_zald (k := (i * 13) + j) hx hb hK hP 4 1 rfl rfl (by omega) (by omega) dX1_groups_53 ?_
        refine lv_if_eq (tgt := 63) hx hb dX1_groups_54 (by decide) (fun c_4 => False.elim (absurd (hf.symm.trans c_4) (by decide))) (fun c_4 => ?_)
        refine lv_iload_n hx hb dX1_groups_57 rfl (lv_at hl 1 rfl) ?_
        refine lv_iconst (v := nI 1) hx hb dX1_groups_58 (by decide) ?_
        refine gz_isub (i := rn - gGr fl j i) (j := 1) hx hb dX1_groups_59 (by omega) ?_
        refine lv_goto (tgt := 64) hx hb dX1_groups_60 (by decide) ?_
        refine lv_istore_n (lv' := [(2, .int (nI ((rn - gGr fl j i) - 1))), (3, .int (nI i)), (0, .ref gm), (1, .int (nI j))]) hx hb dX1_groups_64 rfl hl (by decide) rfl (fun ls hl => ?_)
        refine lv_iinc (v := nI (i + 1)) (lv' := [(3, .int (nI (i + 1))), (2, .int (nI ((rn - gGr fl j i) - 1))), (0, .ref gm), (1, .int (nI j))]) hx hb dX1_groups_65 hl (k := 1) rfl (nI_1 _) (by decide) rfl (fun ls hl => ?_)
        refine lv_goto (tgt := 21) hx hb dX1_groups_68 (by decide) ?_
        have hl := lv_sub hl [0, 1, 2, 3] rfl
        exact ih (i + 1) (by omega) ls (by rw [e, if_pos hf, Nat.sub_add_eq]; exact hl)
      · have hf0 : fl (i * 13 + j) = nI 0 := (hfl _ (by omega)).resolve_right hf
        refine lv_iload_n hx hb dX1_groups_21 rfl (lv_at hl 0 rfl) ?_
        refine lv_iconst (v := nI 1) hx hb dX1_groups_22 (by decide) ?_
        refine gz_iadd (i := i) (j := 1) hx hb dX1_groups_23 ?_
        refine lv_aload_n hx hb dX1_groups_24 rfl (lv_at hl 2 rfl) ?_
        refine va_get (D := (dC, dI)) (ci := 1) (v := .int (nI rn)) (C := RX1) (T := TX1) (N := 10) hx hb hts hin1 hown hK hP 0 rfl rfl 0 (by decide) lk36 (fun _ h9 => h9) rfl dX1_groups_25 ?_
        refine gz_icmp_ge (tgt := 71) (za := ((i + 1 : Nat) : Int)) (zb := ((rn : Nat) : Int)) hx hb dX1_groups_28 (by decide) (nI_toInt (by omega)) (nI_toInt (by omega)) (fun c_1 => False.elim (by omega)) (fun c_1 => ?_)
        refine lv_iload_n hx hb dX1_groups_31 rfl (lv_at hl 3 rfl) ?_
        refine gz_if_le (tgt := 63) (za := ((j : Nat) : Int)) hx hb dX1_groups_32 (by decide) (nI_toInt (by omega)) (fun c_2 => ?_) (fun c_2 => ?_)
        · skip
          refine lv_iload_n hx hb dX1_groups_63 rfl (lv_at hl 1 rfl) ?_
          refine lv_istore_n (lv' := [(2, .int (nI (rn - gGr fl j i))), (3, .int (nI i)), (0, .ref gm), (1, .int (nI j))]) hx hb dX1_groups_64 rfl hl (by decide) rfl (fun ls hl => ?_)
          refine lv_iinc (v := nI (i + 1)) (lv' := [(3, .int (nI (i + 1))), (2, .int (nI (rn - gGr fl j i))), (0, .ref gm), (1, .int (nI j))]) hx hb dX1_groups_65 hl (k := 1) rfl (nI_1 _) (by decide) rfl (fun ls hl => ?_)
          refine lv_goto (tgt := 21) hx hb dX1_groups_68 (by decide) ?_
          have hl := lv_sub hl [0, 1, 2, 3] rfl
          exact ih (i + 1) (by omega) ls (by rw [e, if_neg hf]; exact hl)
        · skip
          refine lv_iload_n hx hb dX1_groups_35 rfl (lv_at hl 3 rfl) ?_
          refine lv_aload_n hx hb dX1_groups_36 rfl (lv_at hl 2 rfl) ?_
          refine va_get (D := (dC, dI)) (ci := 1) (v := .int (nI cn)) (C := RX1) (T := TX1) (N := 10) hx hb hts hin1 hown hK hP 0 rfl rfl 1 (by decide) lk40 (fun _ h9 => h9) rfl dX1_groups_37 ?_
          refine gz_icmp_ge (tgt := 63) (za := ((j : Nat) : Int)) (zb := ((cn : Nat) : Int)) hx hb dX1_groups_40 (by decide) (nI_toInt (by omega)) (nI_toInt (by omega)) (fun c_3 => ?_) (fun c_3 => ?_)
          · skip
            refine lv_iload_n hx hb dX1_groups_63 rfl (lv_at hl 1 rfl) ?_
            refine lv_istore_n (lv' := [(2, .int (nI (rn - gGr fl j i))), (3, .int (nI i)), (0, .ref gm), (1, .int (nI j))]) hx hb dX1_groups_64 rfl hl (by decide) rfl (fun ls hl => ?_)
            refine lv_iinc (v := nI (i + 1)) (lv' := [(3, .int (nI (i + 1))), (2, .int (nI (rn - gGr fl j i))), (0, .ref gm), (1, .int (nI j))]) hx hb dX1_groups_65 hl (k := 1) rfl (nI_1 _) (by decide) rfl (fun ls hl => ?_)
            refine lv_goto (tgt := 21) hx hb dX1_groups_68 (by decide) ?_
            have hl := lv_sub hl [0, 1, 2, 3] rfl
            exact ih (i + 1) (by omega) ls (by rw [e, if_neg hf]; exact hl)
          · skip
            refine lv_aload_n hx hb dX1_groups_43 rfl (lv_at hl 2 rfl) ?_
            refine va_get (D := (dC, dI)) (ci := 1) (v := .ref al) (C := RX1) (T := TX1) (N := 10) hx hb hts hin1 hown hK hP 0 rfl rfl 5 (by decide) lk19 (fun _ h9 => h9) rfl dX1_groups_44 ?_
            refine lv_bipush (v := nI 13) hx hb dX1_groups_47 (by decide) ?_
            refine lv_iload_n hx hb dX1_groups_49 rfl (lv_at hl 0 rfl) ?_
            refine gz_imulc (i := 13) (j := i) hx hb dX1_groups_50 ?_
            refine lv_iload_n hx hb dX1_groups_51 rfl (lv_at hl 3 rfl) ?_
            refine gz_iadd (i := i * 13) (j := j) hx hb dX1_groups_52 ?_
            refine gz_zald (k := (i * 13) + j) hx hb hK hP 4 1 rfl rfl (by omega) (by omega) dX1_groups_53 ?_
            refine lv_if_eq (tgt := 63) hx hb dX1_groups_54 (by decide) (fun c_4 => ?_) (fun c_4 => False.elim (c_4 hf0))
            refine lv_iload_n hx hb dX1_groups_63 rfl (lv_at hl 1 rfl) ?_
            refine lv_istore_n (lv' := [(2, .int (nI (rn - gGr fl j i))), (3, .int (nI i)), (0, .ref gm), (1, .int (nI j))]) hx hb dX1_groups_64 rfl hl (by decide) rfl (fun ls hl => ?_)
            refine lv_iinc (v := nI (i + 1)) (lv' := [(3, .int (nI (i + 1))), (2, .int (nI (rn - gGr fl j i))), (0, .ref gm), (1, .int (nI j))]) hx hb dX1_groups_65 hl (k := 1) rfl (nI_1 _) (by decide) rfl (fun ls hl => ?_)
            refine lv_goto (tgt := 21) hx hb dX1_groups_68 (by decide) ?_
            have hl := lv_sub hl [0, 1, 2, 3] rfl
            exact ih (i + 1) (by omega) ls (by rw [e, if_neg hf]; exact hl)
  refine lv_iload_n hx hb dX1_groups_0 rfl (lv_at hl 1 rfl) ?_
  refine gz_if_lt (tgt := 12) (za := ((j : Nat) : Int)) hx hb dX1_groups_1 (by decide) (nI_toInt (by omega)) (fun c_1 => False.elim (by omega)) (fun c_1 => ?_)
  refine lv_iload_n hx hb dX1_groups_4 rfl (lv_at hl 1 rfl) ?_
  refine lv_aload_n hx hb dX1_groups_5 rfl (lv_at hl 0 rfl) ?_
  refine va_get (D := (dC, dI)) (ci := 1) (v := .int (nI cn)) (C := RX1) (T := TX1) (N := 10) hx hb hts hin1 hown hK hP 0 rfl rfl 1 (by decide) lk40 (fun _ h9 => h9) rfl dX1_groups_6 ?_
  refine gz_icmp_le (tgt := 14) (za := ((j : Nat) : Int)) (zb := ((cn : Nat) : Int)) hx hb dX1_groups_9 (by decide) (nI_toInt (by omega)) (nI_toInt (by omega)) (fun c_2 => ?_) (fun c_2 => False.elim (by omega))
  refine lv_aload_n hx hb dX1_groups_14 rfl (lv_at hl 0 rfl) ?_
  refine va_get (D := (dC, dI)) (ci := 1) (v := .int (nI rn)) (C := RX1) (T := TX1) (N := 10) hx hb hts hin1 hown hK hP 0 rfl rfl 0 (by decide) lk36 (fun _ h9 => h9) rfl dX1_groups_15 ?_
  refine lv_istore_n (lv' := [(2, .int (nI rn)), (0, .ref gm), (1, .int (nI j))]) hx hb dX1_groups_18 rfl hl (by decide) rfl (fun ls hl => ?_)
  refine lv_iconst (v := nI 0) hx hb dX1_groups_19 (by decide) ?_
  refine lv_istore_n (lv' := [(3, .int (nI 0)), (2, .int (nI rn)), (0, .ref gm), (1, .int (nI j))]) hx hb dX1_groups_20 rfl hl (by decide) rfl (fun ls hl => ?_)
  exact loop (rn - 1) 0 (by omega) ls (lv_sub hl [0, 1, 2, 3] rfl)
end
section
set_option maxHeartbeats 4000000 in
set_option maxRecDepth 100000 in
theorem cM_lets (l : Launch) (dC : Nat → ClassId) (dI : Nat → Nat → Nat) (cA cZ : ClassId) (gm ak ac ab al av ah ap : Nat) (fk fc fs fl fp fv ft : Nat → Int32) (rn cn : Nat) (sc : Int32) (k : Nat) (hrn : 1 ≤ rn ∧ rn ≤ 12) (hcn : 1 ≤ cn ∧ cn ≤ 12) (hk : k < 144) (hcI : ∀ k, k < 144 → vp_in (fc k) 40) : Met l yX1_lets wsX1_lets ({ frames := 0, cells := 0, slots := 0, locals := 0 }) (gPr (dC, dI) vwCl [(cA, .int), (cZ, .boolean)] [.ref gm, .int (nI k)] (mw cA cZ gm ak ac ab al av ah ap fk fc fs fl fp fv ft (nI rn) (nI cn) sc)) (QcRead (gLets (fk k) (ft (fc k).toNatClampNeg) (fs k))) 0 0 (fun _ => False) := by
  refine Met.ofW (cc := cX1_lets) (maxL := 3) (ret := (some .boolean)) (by decide) rfl ?_
  intro p e s m args below meth c s₁ B hml hv
  obtain ⟨rfl, hP, hK⟩ := hv
  have hx := B.exec
  have hb := B.bytes
  have hr := B.returns
  have hts := atoms_spec (ws := wsX1_lets) B.pre
  have hown : s.vm.findClass RX1 = some m.cls := findClass_of_methodNamed B.named
  have hlocks := B.notSynchronized
  have hin1 : ∀ w ∈ u_ws RX1 TX1 10, w ∈ wsX1_lets := by decide +kernel
  have lk26 := hts (.fieldLink RX1 26 "LadderGridModel" "then" "[I") (by decide +kernel)
  have lk13 := hts (.fieldLink RX1 13 "LadderGridModel" "variables" "[I") (by decide +kernel)
  have lk7 := hts (.fieldLink RX1 7 "LadderGridModel" "kinds" "[I") (by decide +kernel)
  have lk16 := hts (.fieldLink RX1 16 "LadderGridModel" "before" "[I") (by decide +kernel)
  have hl := lv_entry ([.ref gm, .int (nI k)]) (n := 3) (Nat.le_of_ble_eq_true rfl)
  rw [lg_entry_eq]
  generalize (lg_sl ([.ref gm, .int (nI k)]) ++ List.replicate (3 - (lg_sl ([.ref gm, .int (nI k)])).length) Slot.unset).toArray = ls at hl ⊢
  have hl : lv_has ls 3 [(0, .ref gm), (1, .int (nI k))] := hl
  have hci : vp_in (fc k) 40 := hcI k hk
  by_cases hk1 : fk k = nI 1
  · skip
    refine lv_aload_n hx hb dX1_lets_0 rfl (lv_at hl 0 rfl) ?_
    refine va_get (D := (dC, dI)) (ci := 1) (v := .ref ah) (C := RX1) (T := TX1) (N := 10) hx hb hts hin1 hown hK hP 0 rfl rfl 7 (by decide) lk26 (fun _ h9 => h9) rfl dX1_lets_1 ?_
    refine lv_aload_n hx hb dX1_lets_4 rfl (lv_at hl 0 rfl) ?_
    refine va_get (D := (dC, dI)) (ci := 1) (v := .ref ac) (C := RX1) (T := TX1) (N := 10) hx hb hts hin1 hown hK hP 0 rfl rfl 3 (by decide) lk13 (fun _ h9 => h9) rfl dX1_lets_5 ?_
    refine lv_iload_n hx hb dX1_lets_8 rfl (lv_at hl 1 rfl) ?_
    refine gz_iald (k := k) hx hb hK hP 2 0 rfl rfl (by omega) (by omega) dX1_lets_9 ?_
    refine va_iald hx hb hK hP 6 0 rfl rfl hci dX1_lets_10 ?_
    refine lv_istore_n (lv' := [(2, .int (ft (fc k).toNatClampNeg)), (0, .ref gm), (1, .int (nI k))]) hx hb dX1_lets_11 rfl hl (by decide) rfl (fun ls hl => ?_)
    refine lv_aload_n hx hb dX1_lets_12 rfl (lv_at hl 1 rfl) ?_
    refine va_get (D := (dC, dI)) (ci := 1) (v := .ref ak) (C := RX1) (T := TX1) (N := 10) hx hb hts hin1 hown hK hP 0 rfl rfl 2 (by decide) lk7 (fun _ h9 => h9) rfl dX1_lets_13 ?_
    refine lv_iload_n hx hb dX1_lets_16 rfl (lv_at hl 2 rfl) ?_
    refine gz_iald (k := k) hx hb hK hP 1 0 rfl rfl (by omega) (by omega) dX1_lets_17 ?_
    refine gz_topI (y := nI 1) hk1 ?_
    refine lv_tableIn (tgt := 52) hx hb dX1_lets_18 (by decide) (by decide) rfl (by decide) ?_
    refine lv_iconst (v := nI 1) hx hb dX1_lets_52 (by decide) ?_
    exact W.zret (v := nI 1) hx hb hr rfl (fun t ht hW => ⟨(by unfold gLets; rw [if_pos hk1]; try (first | rfl | (rw [if_pos (by assumption)]; done) | (rw [if_neg (by assumption)]; done) | (rw [if_pos (by assumption), if_pos (by assumption)]; done) | (rw [if_pos (by assumption), if_neg (by assumption)]; done))), ht⟩) (fun q h => absurd h List.not_mem_nil) dX1_lets_53
  by_cases hk2 : fk k = nI 2
  · skip
    refine lv_aload_n hx hb dX1_lets_0 rfl (lv_at hl 0 rfl) ?_
    refine va_get (D := (dC, dI)) (ci := 1) (v := .ref ah) (C := RX1) (T := TX1) (N := 10) hx hb hts hin1 hown hK hP 0 rfl rfl 7 (by decide) lk26 (fun _ h9 => h9) rfl dX1_lets_1 ?_
    refine lv_aload_n hx hb dX1_lets_4 rfl (lv_at hl 0 rfl) ?_
    refine va_get (D := (dC, dI)) (ci := 1) (v := .ref ac) (C := RX1) (T := TX1) (N := 10) hx hb hts hin1 hown hK hP 0 rfl rfl 3 (by decide) lk13 (fun _ h9 => h9) rfl dX1_lets_5 ?_
    refine lv_iload_n hx hb dX1_lets_8 rfl (lv_at hl 1 rfl) ?_
    refine gz_iald (k := k) hx hb hK hP 2 0 rfl rfl (by omega) (by omega) dX1_lets_9 ?_
    refine va_iald hx hb hK hP 6 0 rfl rfl hci dX1_lets_10 ?_
    refine lv_istore_n (lv' := [(2, .int (ft (fc k).toNatClampNeg)), (0, .ref gm), (1, .int (nI k))]) hx hb dX1_lets_11 rfl hl (by decide) rfl (fun ls hl => ?_)
    refine lv_aload_n hx hb dX1_lets_12 rfl (lv_at hl 1 rfl) ?_
    refine va_get (D := (dC, dI)) (ci := 1) (v := .ref ak) (C := RX1) (T := TX1) (N := 10) hx hb hts hin1 hown hK hP 0 rfl rfl 2 (by decide) lk7 (fun _ h9 => h9) rfl dX1_lets_13 ?_
    refine lv_iload_n hx hb dX1_lets_16 rfl (lv_at hl 2 rfl) ?_
    refine gz_iald (k := k) hx hb hK hP 1 0 rfl rfl (by omega) (by omega) dX1_lets_17 ?_
    refine gz_topI (y := nI 2) hk2 ?_
    refine lv_tableIn (tgt := 54) hx hb dX1_lets_18 (by decide) (by decide) rfl (by decide) ?_
    refine lv_iload_n hx hb dX1_lets_54 rfl (lv_at hl 0 rfl) ?_
    refine lv_iconst (v := nI 1) hx hb dX1_lets_55 (by decide) ?_
    refine lv_icmp_ne (tgt := 63) hx hb dX1_lets_56 (by decide) (fun c_1 => ?_) (fun c_1 => ?_)
    · skip
      refine lv_iconst (v := nI 0) hx hb dX1_lets_63 (by decide) ?_
      exact W.zret (v := nI 0) hx hb hr rfl (fun t ht hW => ⟨(by unfold gLets; rw [if_neg hk1, if_pos hk2]; try (first | rfl | (rw [if_pos (by assumption)]; done) | (rw [if_neg (by assumption)]; done) | (rw [if_pos (by assumption), if_pos (by assumption)]; done) | (rw [if_pos (by assumption), if_neg (by assumption)]; done))), ht⟩) (fun q h => absurd h List.not_mem_nil) dX1_lets_64
    · skip
      refine lv_iconst (v := nI 1) hx hb dX1_lets_59 (by decide) ?_
      refine lv_goto (tgt := 64) hx hb dX1_lets_60 (by decide) ?_
      exact W.zret (v := nI 1) hx hb hr rfl (fun t ht hW => ⟨(by unfold gLets; rw [if_neg hk1, if_pos hk2]; try (first | rfl | (rw [if_pos (by assumption)]; done) | (rw [if_neg (by assumption)]; done) | (rw [if_pos (by assumption), if_pos (by assumption)]; done) | (rw [if_pos (by assumption), if_neg (by assumption)]; done))), ht⟩) (fun q h => absurd h List.not_mem_nil) dX1_lets_64
  by_cases hk3 : fk k = nI 3
  · skip
    refine lv_aload_n hx hb dX1_lets_0 rfl (lv_at hl 0 rfl) ?_
    refine va_get (D := (dC, dI)) (ci := 1) (v := .ref ah) (C := RX1) (T := TX1) (N := 10) hx hb hts hin1 hown hK hP 0 rfl rfl 7 (by decide) lk26 (fun _ h9 => h9) rfl dX1_lets_1 ?_
    refine lv_aload_n hx hb dX1_lets_4 rfl (lv_at hl 0 rfl) ?_
    refine va_get (D := (dC, dI)) (ci := 1) (v := .ref ac) (C := RX1) (T := TX1) (N := 10) hx hb hts hin1 hown hK hP 0 rfl rfl 3 (by decide) lk13 (fun _ h9 => h9) rfl dX1_lets_5 ?_
    refine lv_iload_n hx hb dX1_lets_8 rfl (lv_at hl 1 rfl) ?_
    refine gz_iald (k := k) hx hb hK hP 2 0 rfl rfl (by omega) (by omega) dX1_lets_9 ?_
    refine va_iald hx hb hK hP 6 0 rfl rfl hci dX1_lets_10 ?_
    refine lv_istore_n (lv' := [(2, .int (ft (fc k).toNatClampNeg)), (0, .ref gm), (1, .int (nI k))]) hx hb dX1_lets_11 rfl hl (by decide) rfl (fun ls hl => ?_)
    refine lv_aload_n hx hb dX1_lets_12 rfl (lv_at hl 1 rfl) ?_
    refine va_get (D := (dC, dI)) (ci := 1) (v := .ref ak) (C := RX1) (T := TX1) (N := 10) hx hb hts hin1 hown hK hP 0 rfl rfl 2 (by decide) lk7 (fun _ h9 => h9) rfl dX1_lets_13 ?_
    refine lv_iload_n hx hb dX1_lets_16 rfl (lv_at hl 2 rfl) ?_
    refine gz_iald (k := k) hx hb hK hP 1 0 rfl rfl (by omega) (by omega) dX1_lets_17 ?_
    refine gz_topI (y := nI 3) hk3 ?_
    refine lv_tableIn (tgt := 65) hx hb dX1_lets_18 (by decide) (by decide) rfl (by decide) ?_
    refine lv_iload_n hx hb dX1_lets_65 rfl (lv_at hl 0 rfl) ?_
    refine lv_if_ne (tgt := 73) hx hb dX1_lets_66 (by decide) (fun c_1 => ?_) (fun c_1 => ?_)
    · skip
      refine lv_iconst (v := nI 0) hx hb dX1_lets_73 (by decide) ?_
      exact W.zret (v := nI 0) hx hb hr rfl (fun t ht hW => ⟨(by unfold gLets; rw [if_neg hk1, if_neg hk2, if_pos hk3]; try (first | rfl | (rw [if_pos (by assumption)]; done) | (rw [if_neg (by assumption)]; done) | (rw [if_pos (by assumption), if_pos (by assumption)]; done) | (rw [if_pos (by assumption), if_neg (by assumption)]; done))), ht⟩) (fun q h => absurd h List.not_mem_nil) dX1_lets_74
    · skip
      refine lv_iconst (v := nI 1) hx hb dX1_lets_69 (by decide) ?_
      refine lv_goto (tgt := 74) hx hb dX1_lets_70 (by decide) ?_
      exact W.zret (v := nI 1) hx hb hr rfl (fun t ht hW => ⟨(by unfold gLets; rw [if_neg hk1, if_neg hk2, if_pos hk3]; try (first | rfl | (rw [if_pos (by assumption)]; done) | (rw [if_neg (by assumption)]; done) | (rw [if_pos (by assumption), if_pos (by assumption)]; done) | (rw [if_pos (by assumption), if_neg (by assumption)]; done))), ht⟩) (fun q h => absurd h List.not_mem_nil) dX1_lets_74
  by_cases hk4 : fk k = nI 4
  · skip
    refine lv_aload_n hx hb dX1_lets_0 rfl (lv_at hl 0 rfl) ?_
    refine va_get (D := (dC, dI)) (ci := 1) (v := .ref ah) (C := RX1) (T := TX1) (N := 10) hx hb hts hin1 hown hK hP 0 rfl rfl 7 (by decide) lk26 (fun _ h9 => h9) rfl dX1_lets_1 ?_
    refine lv_aload_n hx hb dX1_lets_4 rfl (lv_at hl 0 rfl) ?_
    refine va_get (D := (dC, dI)) (ci := 1) (v := .ref ac) (C := RX1) (T := TX1) (N := 10) hx hb hts hin1 hown hK hP 0 rfl rfl 3 (by decide) lk13 (fun _ h9 => h9) rfl dX1_lets_5 ?_
    refine lv_iload_n hx hb dX1_lets_8 rfl (lv_at hl 1 rfl) ?_
    refine gz_iald (k := k) hx hb hK hP 2 0 rfl rfl (by omega) (by omega) dX1_lets_9 ?_
    refine va_iald hx hb hK hP 6 0 rfl rfl hci dX1_lets_10 ?_
    refine lv_istore_n (lv' := [(2, .int (ft (fc k).toNatClampNeg)), (0, .ref gm), (1, .int (nI k))]) hx hb dX1_lets_11 rfl hl (by decide) rfl (fun ls hl => ?_)
    refine lv_aload_n hx hb dX1_lets_12 rfl (lv_at hl 1 rfl) ?_
    refine va_get (D := (dC, dI)) (ci := 1) (v := .ref ak) (C := RX1) (T := TX1) (N := 10) hx hb hts hin1 hown hK hP 0 rfl rfl 2 (by decide) lk7 (fun _ h9 => h9) rfl dX1_lets_13 ?_
    refine lv_iload_n hx hb dX1_lets_16 rfl (lv_at hl 2 rfl) ?_
    refine gz_iald (k := k) hx hb hK hP 1 0 rfl rfl (by omega) (by omega) dX1_lets_17 ?_
    refine gz_topI (y := nI 4) hk4 ?_
    refine lv_tableIn (tgt := 75) hx hb dX1_lets_18 (by decide) (by decide) rfl (by decide) ?_
    refine lv_iload_n hx hb dX1_lets_75 rfl (lv_at hl 0 rfl) ?_
    refine lv_iconst (v := nI 1) hx hb dX1_lets_76 (by decide) ?_
    refine lv_icmp_ne (tgt := 93) hx hb dX1_lets_77 (by decide) (fun c_1 => ?_) (fun c_1 => ?_)
    · skip
      refine lv_iconst (v := nI 0) hx hb dX1_lets_93 (by decide) ?_
      exact W.zret (v := nI 0) hx hb hr rfl (fun t ht hW => ⟨(by unfold gLets; rw [if_neg hk1, if_neg hk2, if_neg hk3, if_pos hk4]; try (first | rfl | (rw [if_pos (by assumption)]; done) | (rw [if_neg (by assumption)]; done) | (rw [if_pos (by assumption), if_pos (by assumption)]; done) | (rw [if_pos (by assumption), if_neg (by assumption)]; done))), ht⟩) (fun q h => absurd h List.not_mem_nil) dX1_lets_94
    · skip
      refine lv_aload_n hx hb dX1_lets_80 rfl (lv_at hl 1 rfl) ?_
      refine va_get (D := (dC, dI)) (ci := 1) (v := .ref ab) (C := RX1) (T := TX1) (N := 10) hx hb hts hin1 hown hK hP 0 rfl rfl 4 (by decide) lk16 (fun _ h9 => h9) rfl dX1_lets_81 ?_
      refine lv_iload_n hx hb dX1_lets_84 rfl (lv_at hl 2 rfl) ?_
      refine gz_iald (k := k) hx hb hK hP 3 0 rfl rfl (by omega) (by omega) dX1_lets_85 ?_
      refine lv_if_ne (tgt := 93) hx hb dX1_lets_86 (by decide) (fun c_2 => ?_) (fun c_2 => ?_)
      · skip
        refine lv_iconst (v := nI 0) hx hb dX1_lets_93 (by decide) ?_
        exact W.zret (v := nI 0) hx hb hr rfl (fun t ht hW => ⟨(by unfold gLets; rw [if_neg hk1, if_neg hk2, if_neg hk3, if_pos hk4]; try (first | rfl | (rw [if_pos (by assumption)]; done) | (rw [if_neg (by assumption)]; done) | (rw [if_pos (by assumption), if_pos (by assumption)]; done) | (rw [if_pos (by assumption), if_neg (by assumption)]; done))), ht⟩) (fun q h => absurd h List.not_mem_nil) dX1_lets_94
      · skip
        refine lv_iconst (v := nI 1) hx hb dX1_lets_89 (by decide) ?_
        refine lv_goto (tgt := 94) hx hb dX1_lets_90 (by decide) ?_
        exact W.zret (v := nI 1) hx hb hr rfl (fun t ht hW => ⟨(by unfold gLets; rw [if_neg hk1, if_neg hk2, if_neg hk3, if_pos hk4]; try (first | rfl | (rw [if_pos (by assumption)]; done) | (rw [if_neg (by assumption)]; done) | (rw [if_pos (by assumption), if_pos (by assumption)]; done) | (rw [if_pos (by assumption), if_neg (by assumption)]; done))), ht⟩) (fun q h => absurd h List.not_mem_nil) dX1_lets_94
  by_cases hk5 : fk k = nI 5
  · skip
    refine lv_aload_n hx hb dX1_lets_0 rfl (lv_at hl 0 rfl) ?_
    refine va_get (D := (dC, dI)) (ci := 1) (v := .ref ah) (C := RX1) (T := TX1) (N := 10) hx hb hts hin1 hown hK hP 0 rfl rfl 7 (by decide) lk26 (fun _ h9 => h9) rfl dX1_lets_1 ?_
    refine lv_aload_n hx hb dX1_lets_4 rfl (lv_at hl 0 rfl) ?_
    refine va_get (D := (dC, dI)) (ci := 1) (v := .ref ac) (C := RX1) (T := TX1) (N := 10) hx hb hts hin1 hown hK hP 0 rfl rfl 3 (by decide) lk13 (fun _ h9 => h9) rfl dX1_lets_5 ?_
    refine lv_iload_n hx hb dX1_lets_8 rfl (lv_at hl 1 rfl) ?_
    refine gz_iald (k := k) hx hb hK hP 2 0 rfl rfl (by omega) (by omega) dX1_lets_9 ?_
    refine va_iald hx hb hK hP 6 0 rfl rfl hci dX1_lets_10 ?_
    refine lv_istore_n (lv' := [(2, .int (ft (fc k).toNatClampNeg)), (0, .ref gm), (1, .int (nI k))]) hx hb dX1_lets_11 rfl hl (by decide) rfl (fun ls hl => ?_)
    refine lv_aload_n hx hb dX1_lets_12 rfl (lv_at hl 1 rfl) ?_
    refine va_get (D := (dC, dI)) (ci := 1) (v := .ref ak) (C := RX1) (T := TX1) (N := 10) hx hb hts hin1 hown hK hP 0 rfl rfl 2 (by decide) lk7 (fun _ h9 => h9) rfl dX1_lets_13 ?_
    refine lv_iload_n hx hb dX1_lets_16 rfl (lv_at hl 2 rfl) ?_
    refine gz_iald (k := k) hx hb hK hP 1 0 rfl rfl (by omega) (by omega) dX1_lets_17 ?_
    refine gz_topI (y := nI 5) hk5 ?_
    refine lv_tableIn (tgt := 95) hx hb dX1_lets_18 (by decide) (by decide) rfl (by decide) ?_
    refine lv_iload_n hx hb dX1_lets_95 rfl (lv_at hl 0 rfl) ?_
    refine lv_if_ne (tgt := 113) hx hb dX1_lets_96 (by decide) (fun c_1 => ?_) (fun c_1 => ?_)
    · skip
      refine lv_iconst (v := nI 0) hx hb dX1_lets_113 (by decide) ?_
      exact W.zret (v := nI 0) hx hb hr rfl (fun t ht hW => ⟨(by unfold gLets; rw [if_neg hk1, if_neg hk2, if_neg hk3, if_neg hk4, if_pos hk5]; try (first | rfl | (rw [if_pos (by assumption)]; done) | (rw [if_neg (by assumption)]; done) | (rw [if_pos (by assumption), if_pos (by assumption)]; done) | (rw [if_pos (by assumption), if_neg (by assumption)]; done))), ht⟩) (fun q h => absurd h List.not_mem_nil) dX1_lets_114
    · skip
      refine lv_aload_n hx hb dX1_lets_99 rfl (lv_at hl 1 rfl) ?_
      refine va_get (D := (dC, dI)) (ci := 1) (v := .ref ab) (C := RX1) (T := TX1) (N := 10) hx hb hts hin1 hown hK hP 0 rfl rfl 4 (by decide) lk16 (fun _ h9 => h9) rfl dX1_lets_100 ?_
      refine lv_iload_n hx hb dX1_lets_103 rfl (lv_at hl 2 rfl) ?_
      refine gz_iald (k := k) hx hb hK hP 3 0 rfl rfl (by omega) (by omega) dX1_lets_104 ?_
      refine lv_iconst (v := nI 1) hx hb dX1_lets_105 (by decide) ?_
      refine lv_icmp_ne (tgt := 113) hx hb dX1_lets_106 (by decide) (fun c_2 => ?_) (fun c_2 => ?_)
      · skip
        refine lv_iconst (v := nI 0) hx hb dX1_lets_113 (by decide) ?_
        exact W.zret (v := nI 0) hx hb hr rfl (fun t ht hW => ⟨(by unfold gLets; rw [if_neg hk1, if_neg hk2, if_neg hk3, if_neg hk4, if_pos hk5]; try (first | rfl | (rw [if_pos (by assumption)]; done) | (rw [if_neg (by assumption)]; done) | (rw [if_pos (by assumption), if_pos (by assumption)]; done) | (rw [if_pos (by assumption), if_neg (by assumption)]; done))), ht⟩) (fun q h => absurd h List.not_mem_nil) dX1_lets_114
      · skip
        refine lv_iconst (v := nI 1) hx hb dX1_lets_109 (by decide) ?_
        refine lv_goto (tgt := 114) hx hb dX1_lets_110 (by decide) ?_
        exact W.zret (v := nI 1) hx hb hr rfl (fun t ht hW => ⟨(by unfold gLets; rw [if_neg hk1, if_neg hk2, if_neg hk3, if_neg hk4, if_pos hk5]; try (first | rfl | (rw [if_pos (by assumption)]; done) | (rw [if_neg (by assumption)]; done) | (rw [if_pos (by assumption), if_pos (by assumption)]; done) | (rw [if_pos (by assumption), if_neg (by assumption)]; done))), ht⟩) (fun q h => absurd h List.not_mem_nil) dX1_lets_114
  refine lv_aload_n hx hb dX1_lets_0 rfl (lv_at hl 0 rfl) ?_
  refine va_get (D := (dC, dI)) (ci := 1) (v := .ref ah) (C := RX1) (T := TX1) (N := 10) hx hb hts hin1 hown hK hP 0 rfl rfl 7 (by decide) lk26 (fun _ h9 => h9) rfl dX1_lets_1 ?_
  refine lv_aload_n hx hb dX1_lets_4 rfl (lv_at hl 0 rfl) ?_
  refine va_get (D := (dC, dI)) (ci := 1) (v := .ref ac) (C := RX1) (T := TX1) (N := 10) hx hb hts hin1 hown hK hP 0 rfl rfl 3 (by decide) lk13 (fun _ h9 => h9) rfl dX1_lets_5 ?_
  refine lv_iload_n hx hb dX1_lets_8 rfl (lv_at hl 1 rfl) ?_
  refine gz_iald (k := k) hx hb hK hP 2 0 rfl rfl (by omega) (by omega) dX1_lets_9 ?_
  refine va_iald hx hb hK hP 6 0 rfl rfl hci dX1_lets_10 ?_
  refine lv_istore_n (lv' := [(2, .int (ft (fc k).toNatClampNeg)), (0, .ref gm), (1, .int (nI k))]) hx hb dX1_lets_11 rfl hl (by decide) rfl (fun ls hl => ?_)
  refine lv_aload_n hx hb dX1_lets_12 rfl (lv_at hl 1 rfl) ?_
  refine va_get (D := (dC, dI)) (ci := 1) (v := .ref ak) (C := RX1) (T := TX1) (N := 10) hx hb hts hin1 hown hK hP 0 rfl rfl 2 (by decide) lk7 (fun _ h9 => h9) rfl dX1_lets_13 ?_
  refine lv_iload_n hx hb dX1_lets_16 rfl (lv_at hl 2 rfl) ?_
  refine gz_iald (k := k) hx hb hK hP 1 0 rfl rfl (by omega) (by omega) dX1_lets_17 ?_
  have hout : (fk k).toInt < 1 ∨ 5 < (fk k).toInt := by
    have t1 : ¬ (fk k).toInt = 1 := lv_neT hk1 (by decide)
    have t2 : ¬ (fk k).toInt = 2 := lv_neT hk2 (by decide)
    have t3 : ¬ (fk k).toInt = 3 := lv_neT hk3 (by decide)
    have t4 : ¬ (fk k).toInt = 4 := lv_neT hk4 (by decide)
    have t5 : ¬ (fk k).toInt = 5 := lv_neT hk5 (by decide)
    omega
  refine lv_tableOut (tgt := 115) hx hb dX1_lets_18 hout (by decide) ?_
  refine lv_iconst (v := nI 0) hx hb dX1_lets_115 (by decide) ?_
  exact W.zret (v := nI 0) hx hb hr rfl (fun t ht hW => ⟨(by unfold gLets; rw [if_neg hk1, if_neg hk2, if_neg hk3, if_neg hk4, if_neg hk5]), ht⟩) (fun q h => absurd h List.not_mem_nil) dX1_lets_116
set_option maxHeartbeats 4000000 in
set_option maxRecDepth 100000 in
theorem cM_spread (l : Launch) (dC : Nat → ClassId) (dI : Nat → Nat → Nat) (sz : Nat) (cA cZ : ClassId) (gm ak ac ab al av ah ap : Nat) (fk fc fs fl fp fv ft : Nat → Int32) (rn cn : Nat) (sc : Int32) (ln : Nat) (hrn : 1 ≤ rn ∧ rn ≤ 12) (hcn : 1 ≤ cn ∧ cn ≤ 12) (hln : ln ≤ cn) (hfl : g01 156 fl) (hfp : g01 156 fp) : Met l yX1_spread wsX1_spread ({ frames := 0, cells := 0, slots := 0, locals := 0 }) (gPw (dC, dI) vwCl [(cA, .int), (cZ, .boolean)] [.ref gm, .int (nI ln)] sz (mw cA cZ gm ak ac ab al av ah ap fk fc fs fl fp fv ft (nI rn) (nI cn) sc)) (gVA (dC, dI) vwCl [(cA, .int), (cZ, .boolean)] (va_A (mw cA cZ gm ak ac ab al av ah ap fk fc fs fl fp fv ft (nI rn) (nI cn) sc) sz) (mw cA cZ gm ak ac ab al av ah ap fk fc fs fl (gSh fl ln rn fp) fv ft (nI rn) (nI cn) sc)) 0 0 (va_A (mw cA cZ gm ak ac ab al av ah ap fk fc fs fl fp fv ft (nI rn) (nI cn) sc) sz) := by
  refine Met.ofW (cc := cX1_spread) (maxL := 3) (ret := none) (by decide) rfl ?_
  intro p e s m args below meth c s₁ B hml hv
  obtain ⟨rfl, hsz, hP, hK, hD0⟩ := hv
  have hx := B.exec
  have hb := B.bytes
  have hr := B.returns
  have hts := atoms_spec (ws := wsX1_spread) B.pre
  have hown : s.vm.findClass RX1 = some m.cls := findClass_of_methodNamed B.named
  have hlocks := B.notSynchronized
  subst hsz
  have hD := hD0.self (sz := s.heap.size)
  generalize hAe : va_A (mw cA cZ gm ak ac ab al av ah ap fk fc fs fl fp fv ft (nI rn) (nI cn) sc) s.heap.size = A at hD ⊢
  have hA : ∀ q : Nat, s.heap.size ≤ q → A q := fun q h => by rw [← hAe]; exact Or.inr h
  have hS : va_S A s.heap s.heap [] := va_S.rf
  have hin1 : ∀ w ∈ u_ws RX1 TX1 10, w ∈ wsX1_spread := by decide +kernel
  have lk36 := hts (.fieldLink RX1 36 "LadderGridModel" "rows" "I") (by decide +kernel)
  have lk19 := hts (.fieldLink RX1 19 "LadderGridModel" "isLinked" "[Z") (by decide +kernel)
  have lk29 := hts (.fieldLink RX1 29 "LadderGridModel" "hasPower" "[Z") (by decide +kernel)
  have hl := lv_entry ([.ref gm, .int (nI ln)]) (n := 3) (Nat.le_of_ble_eq_true rfl)
  rw [lg_entry_eq]
  generalize (lg_sl ([.ref gm, .int (nI ln)]) ++ List.replicate (3 - (lg_sl ([.ref gm, .int (nI ln)])).length) Slot.unset).toArray = ls at hl ⊢
  have hl : lv_has ls 3 [(0, .ref gm), (1, .int (nI ln))] := hl
  suffices key : ∀ (H : Heap) (locs : List Loc), va_P (dC, dI) vwCl (mw cA cZ gm ak ac ab al av ah ap fk fc fs fl fp fv ft (nI rn) (nI cn) sc) H → va_D A (mw cA cZ gm ak ac ab al av ah ap fk fc fs fl fp fv ft (nI rn) (nI cn) sc) → va_S A s.heap H locs → W p l e (headSpec wsX1_spread ({ frames := 0, cells := 0, slots := 0, locals := 0 })).room s m ([.ref gm, .int (nI ln)] : List Value).toArray below meth c H locs 0 0 (MQ below (gVA (dC, dI) vwCl [(cA, .int), (cZ, .boolean)] A (mw cA cZ gm ak ac ab al av ah ap fk fc fs fl (gSh fl ln rn fp) fv ft (nI rn) (nI cn) sc)) ([.ref gm, .int (nI ln)] : List Value).toArray s 0 0 A) (F0 m 0 ls []) from key s.heap [] hP hD hS
  clear hP hD hS
  intro H locs hP hD hS
  have loop2 : ∀ (n : Nat) (g : Nat → Int32), n + 1 ≤ rn → g01 156 g → gUp fl ln (rn - 1) (gDn fl ln fp (rn - 1)) = gUp fl ln n g → ∀ (H : Heap) (locs : List Loc), va_P (dC, dI) vwCl (mw cA cZ gm ak ac ab al av ah ap fk fc fs fl g fv ft (nI rn) (nI cn) sc) H → va_D A (mw cA cZ gm ak ac ab al av ah ap fk fc fs fl g fv ft (nI rn) (nI cn) sc) → va_S A s.heap H locs → ∀ (ls : Array Slot), lv_has ls 3 [(2, .int (gRow n)), (0, .ref gm), (1, .int (nI ln))] → W p l e (headSpec wsX1_spread ({ frames := 0, cells := 0, slots := 0, locals := 0 })).room s m ([.ref gm, .int (nI ln)] : List Value).toArray below meth c H locs 0 0 (MQ below (gVA (dC, dI) vwCl [(cA, .int), (cZ, .boolean)] A (mw cA cZ gm ak ac ab al av ah ap fk fc fs fl (gSh fl ln rn fp) fv ft (nI rn) (nI cn) sc)) ([.ref gm, .int (nI ln)] : List Value).toArray s 0 0 A) (F0 m 68 ls []) := by
    intro n
    induction n with
    | zero =>
      intro g hn hg01 hg H locs hP hD hS ls hl
      have hl : lv_has ls 3 [(2, .int (-1)), (0, .ref gm), (1, .int (nI ln))] := hl
      refine lv_iload_n hx hb dX1_spread_68 rfl (lv_at hl 0 rfl) ?_
      refine gz_if_lt (tgt := 121) (za := (-1)) hx hb dX1_spread_69 (by decide) (by decide) (fun c_1 => ?_) (fun c_1 => False.elim (by omega))
      exact W.vret hx hb hr (fun t ht hW => ⟨⟨(), rfl, trivial, by rw [ht]; exact (by unfold gSh; rw [hg]; exact hP), va_K.moved hW.alike hK, (by unfold gSh; rw [hg]; exact hD)⟩, hS.F ht⟩) hS.2.2 dX1_spread_121
    | succ n ih =>
      intro g hn hg01 hg H locs hP hD hS ls hl
      have hl : lv_has ls 3 [(2, .int (nI n)), (0, .ref gm), (1, .int (nI ln))] := hl
      rcases hfl (n * 13 + ln) (by omega) with hf | hf
      · skip
        refine lv_iload_n hx hb dX1_spread_68 rfl (lv_at hl 0 rfl) ?_
        refine gz_if_lt (tgt := 121) (za := ((n : Nat) : Int)) hx hb dX1_spread_69 (by decide) (nI_toInt (by omega)) (fun c_1 => False.elim (by omega)) (fun c_1 => ?_)
        refine lv_aload_n hx hb dX1_spread_72 rfl (lv_at hl 1 rfl) ?_
        refine va_get (D := (dC, dI)) (ci := 1) (v := .ref al) (C := RX1) (T := TX1) (N := 10) hx hb hts hin1 hown hK hP 0 rfl rfl 5 (by decide) lk19 (fun _ h9 => h9) rfl dX1_spread_73 ?_
        refine lv_bipush (v := nI 13) hx hb dX1_spread_76 (by decide) ?_
        refine lv_iload_n hx hb dX1_spread_78 rfl (lv_at hl 0 rfl) ?_
        refine gz_imulc (i := 13) (j := n) hx hb dX1_spread_79 ?_
        refine lv_iload_n hx hb dX1_spread_80 rfl (lv_at hl 2 rfl) ?_
        refine gz_iadd (i := n * 13) (j := ln) hx hb dX1_spread_81 ?_
        refine gz_zald (k := (n * 13) + ln) hx hb hK hP 4 1 rfl rfl (by omega) (by omega) dX1_spread_82 ?_
        refine lv_if_eq (tgt := 115) hx hb dX1_spread_83 (by decide) (fun c_2 => ?_) (fun c_2 => False.elim (c_2 hf))
        refine lv_iinc (v := gRow n) (lv' := [(2, .int (gRow n)), (0, .ref gm), (1, .int (nI ln))]) hx hb dX1_spread_115 hl (k := 0) rfl (gRow_dec n) (by decide) rfl (fun ls hl => ?_)
        refine lv_goto (tgt := 68) hx hb dX1_spread_118 (by decide) ?_
        exact ih (g) (by omega) hg01 (by rw [hg]; show gUp fl ln n (gUp1 fl ln n g) = _; unfold gUp1; rw [if_neg (by rw [hf]; decide)]) H locs hP hD hS ls (lv_sub hl [0, 1, 2] rfl)
      · rcases hg01 ((n + 1) * 13 + ln) (by omega) with hg1 | hg1
        · skip
          refine lv_iload_n hx hb dX1_spread_68 rfl (lv_at hl 0 rfl) ?_
          refine gz_if_lt (tgt := 121) (za := ((n : Nat) : Int)) hx hb dX1_spread_69 (by decide) (nI_toInt (by omega)) (fun c_1 => False.elim (by omega)) (fun c_1 => ?_)
          refine lv_aload_n hx hb dX1_spread_72 rfl (lv_at hl 1 rfl) ?_
          refine va_get (D := (dC, dI)) (ci := 1) (v := .ref al) (C := RX1) (T := TX1) (N := 10) hx hb hts hin1 hown hK hP 0 rfl rfl 5 (by decide) lk19 (fun _ h9 => h9) rfl dX1_spread_73 ?_
          refine lv_bipush (v := nI 13) hx hb dX1_spread_76 (by decide) ?_
          refine lv_iload_n hx hb dX1_spread_78 rfl (lv_at hl 0 rfl) ?_
          refine gz_imulc (i := 13) (j := n) hx hb dX1_spread_79 ?_
          refine lv_iload_n hx hb dX1_spread_80 rfl (lv_at hl 2 rfl) ?_
          refine gz_iadd (i := n * 13) (j := ln) hx hb dX1_spread_81 ?_
          refine gz_zald (k := (n * 13) + ln) hx hb hK hP 4 1 rfl rfl (by omega) (by omega) dX1_spread_82 ?_
          refine lv_if_eq (tgt := 115) hx hb dX1_spread_83 (by decide) (fun c_2 => False.elim (absurd (hf.symm.trans c_2) (by decide))) (fun c_2 => ?_)
          refine lv_aload_n hx hb dX1_spread_86 rfl (lv_at hl 1 rfl) ?_
          refine va_get (D := (dC, dI)) (ci := 1) (v := .ref ap) (C := RX1) (T := TX1) (N := 10) hx hb hts hin1 hown hK hP 0 rfl rfl 8 (by decide) lk29 (fun _ h9 => h9) rfl dX1_spread_87 ?_
          refine lv_bipush (v := nI 13) hx hb dX1_spread_90 (by decide) ?_
          refine lv_iload_n hx hb dX1_spread_92 rfl (lv_at hl 0 rfl) ?_
          refine gz_imulc (i := 13) (j := n) hx hb dX1_spread_93 ?_
          refine lv_bipush (v := nI 13) hx hb dX1_spread_94 (by decide) ?_
          refine gz_iadd (i := n * 13) (j := 13) hx hb dX1_spread_96 ?_
          refine lv_iload_n hx hb dX1_spread_97 rfl (lv_at hl 2 rfl) ?_
          refine gz_iadd (i := (n * 13) + 13) (j := ln) hx hb dX1_spread_98 ?_
          refine gz_top (j := (n + 1) * 13 + ln) (by omega) ?_
          refine gz_zald (k := (n + 1) * 13 + ln) hx hb hK hP 7 1 rfl rfl (by omega) (by omega) dX1_spread_99 ?_
          refine lv_if_eq (tgt := 115) hx hb dX1_spread_100 (by decide) (fun c_3 => ?_) (fun c_3 => False.elim (c_3 hg1))
          refine lv_iinc (v := gRow n) (lv' := [(2, .int (gRow n)), (0, .ref gm), (1, .int (nI ln))]) hx hb dX1_spread_115 hl (k := 0) rfl (gRow_dec n) (by decide) rfl (fun ls hl => ?_)
          refine lv_goto (tgt := 68) hx hb dX1_spread_118 (by decide) ?_
          exact ih (g) (by omega) hg01 (by rw [hg]; show gUp fl ln n (gUp1 fl ln n g) = _; unfold gUp1; rw [if_pos hf, if_neg (by rw [hg1]; decide)]) H locs hP hD hS ls (lv_sub hl [0, 1, 2] rfl)
        · skip
          refine lv_iload_n hx hb dX1_spread_68 rfl (lv_at hl 0 rfl) ?_
          refine gz_if_lt (tgt := 121) (za := ((n : Nat) : Int)) hx hb dX1_spread_69 (by decide) (nI_toInt (by omega)) (fun c_1 => False.elim (by omega)) (fun c_1 => ?_)
          refine lv_aload_n hx hb dX1_spread_72 rfl (lv_at hl 1 rfl) ?_
          refine va_get (D := (dC, dI)) (ci := 1) (v := .ref al) (C := RX1) (T := TX1) (N := 10) hx hb hts hin1 hown hK hP 0 rfl rfl 5 (by decide) lk19 (fun _ h9 => h9) rfl dX1_spread_73 ?_
          refine lv_bipush (v := nI 13) hx hb dX1_spread_76 (by decide) ?_
          refine lv_iload_n hx hb dX1_spread_78 rfl (lv_at hl 0 rfl) ?_
          refine gz_imulc (i := 13) (j := n) hx hb dX1_spread_79 ?_
          refine lv_iload_n hx hb dX1_spread_80 rfl (lv_at hl 2 rfl) ?_
          refine gz_iadd (i := n * 13) (j := ln) hx hb dX1_spread_81 ?_
          refine gz_zald (k := (n * 13) + ln) hx hb hK hP 4 1 rfl rfl (by omega) (by omega) dX1_spread_82 ?_
          refine lv_if_eq (tgt := 115) hx hb dX1_spread_83 (by decide) (fun c_2 => False.elim (absurd (hf.symm.trans c_2) (by decide))) (fun c_2 => ?_)
          refine lv_aload_n hx hb dX1_spread_86 rfl (lv_at hl 1 rfl) ?_
          refine va_get (D := (dC, dI)) (ci := 1) (v := .ref ap) (C := RX1) (T := TX1) (N := 10) hx hb hts hin1 hown hK hP 0 rfl rfl 8 (by decide) lk29 (fun _ h9 => h9) rfl dX1_spread_87 ?_
          refine lv_bipush (v := nI 13) hx hb dX1_spread_90 (by decide) ?_
          refine lv_iload_n hx hb dX1_spread_92 rfl (lv_at hl 0 rfl) ?_
          refine gz_imulc (i := 13) (j := n) hx hb dX1_spread_93 ?_
          refine lv_bipush (v := nI 13) hx hb dX1_spread_94 (by decide) ?_
          refine gz_iadd (i := n * 13) (j := 13) hx hb dX1_spread_96 ?_
          refine lv_iload_n hx hb dX1_spread_97 rfl (lv_at hl 2 rfl) ?_
          refine gz_iadd (i := (n * 13) + 13) (j := ln) hx hb dX1_spread_98 ?_
          refine gz_top (j := (n + 1) * 13 + ln) (by omega) ?_
          refine gz_zald (k := (n + 1) * 13 + ln) hx hb hK hP 7 1 rfl rfl (by omega) (by omega) dX1_spread_99 ?_
          refine lv_if_eq (tgt := 115) hx hb dX1_spread_100 (by decide) (fun c_3 => False.elim (absurd (hg1.symm.trans c_3) (by decide))) (fun c_3 => ?_)
          refine lv_aload_n hx hb dX1_spread_103 rfl (lv_at hl 1 rfl) ?_
          refine va_get (D := (dC, dI)) (ci := 1) (v := .ref ap) (C := RX1) (T := TX1) (N := 10) hx hb hts hin1 hown hK hP 0 rfl rfl 8 (by decide) lk29 (fun _ h9 => h9) rfl dX1_spread_104 ?_
          refine lv_bipush (v := nI 13) hx hb dX1_spread_107 (by decide) ?_
          refine lv_iload_n hx hb dX1_spread_109 rfl (lv_at hl 0 rfl) ?_
          refine gz_imulc (i := 13) (j := n) hx hb dX1_spread_110 ?_
          refine lv_iload_n hx hb dX1_spread_111 rfl (lv_at hl 2 rfl) ?_
          refine gz_iadd (i := n * 13) (j := ln) hx hb dX1_spread_112 ?_
          refine lv_iconst (v := nI 1) hx hb dX1_spread_113 (by decide) ?_
          refine gz_zast (k := (n * 13) + ln) hx hb hK hP hD hS 7 1 rfl rfl gz_nar1 (by omega) (by omega) dX1_spread_114 (fun H locs hP hD hS => ?_)
          have hP : va_P (dC, dI) vwCl (mw cA cZ gm ak ac ab al av ah ap fk fc fs fl (upd g ((n * 13) + ln) (nI 1)) fv ft (nI rn) (nI cn) sc) H := hP
          have hD : va_D A (mw cA cZ gm ak ac ab al av ah ap fk fc fs fl (upd g ((n * 13) + ln) (nI 1)) fv ft (nI rn) (nI cn) sc) := hD
          refine lv_iinc (v := gRow n) (lv' := [(2, .int (gRow n)), (0, .ref gm), (1, .int (nI ln))]) hx hb dX1_spread_115 hl (k := 0) rfl (gRow_dec n) (by decide) rfl (fun ls hl => ?_)
          refine lv_goto (tgt := 68) hx hb dX1_spread_118 (by decide) ?_
          exact ih (upd g ((n * 13) + ln) (nI 1)) (by omega) (g01_upd hg01 (Or.inr rfl)) (by rw [hg]; show gUp fl ln n (gUp1 fl ln n g) = _; unfold gUp1; rw [if_pos hf, if_pos hg1]) H locs hP hD hS ls (lv_sub hl [0, 1, 2] rfl)
  have loop1 : ∀ (n : Nat) (i : Nat), i + n = rn - 1 → ∀ (H : Heap) (locs : List Loc), va_P (dC, dI) vwCl (mw cA cZ gm ak ac ab al av ah ap fk fc fs fl (gDn fl ln fp i) fv ft (nI rn) (nI cn) sc) H → va_D A (mw cA cZ gm ak ac ab al av ah ap fk fc fs fl (gDn fl ln fp i) fv ft (nI rn) (nI cn) sc) → va_S A s.heap H locs → ∀ (ls : Array Slot), lv_has ls 3 [(2, .int (nI i)), (0, .ref gm), (1, .int (nI ln))] → W p l e (headSpec wsX1_spread ({ frames := 0, cells := 0, slots := 0, locals := 0 })).room s m ([.ref gm, .int (nI ln)] : List Value).toArray below meth c H locs 0 0 (MQ below (gVA (dC, dI) vwCl [(cA, .int), (cZ, .boolean)] A (mw cA cZ gm ak ac ab al av ah ap fk fc fs fl (gSh fl ln rn fp) fv ft (nI rn) (nI cn) sc)) ([.ref gm, .int (nI ln)] : List Value).toArray s 0 0 A) (F0 m 2 ls []) := by
    intro n
    induction n with
    | zero =>
      intro i hi H locs hP hD hS ls hl
      refine lv_iload_n hx hb dX1_spread_2 rfl (lv_at hl 0 rfl) ?_
      refine lv_iconst (v := nI 1) hx hb dX1_spread_3 (by decide) ?_
      refine gz_iadd (i := i) (j := 1) hx hb dX1_spread_4 ?_
      refine lv_aload_n hx hb dX1_spread_5 rfl (lv_at hl 1 rfl) ?_
      refine va_get (D := (dC, dI)) (ci := 1) (v := .int (nI rn)) (C := RX1) (T := TX1) (N := 10) hx hb hts hin1 hown hK hP 0 rfl rfl 0 (by decide) lk36 (fun _ h9 => h9) rfl dX1_spread_6 ?_
      refine gz_icmp_ge (tgt := 61) (za := ((i + 1 : Nat) : Int)) (zb := ((rn : Nat) : Int)) hx hb dX1_spread_9 (by decide) (nI_toInt (by omega)) (nI_toInt (by omega)) (fun c_1 => ?_) (fun c_1 => False.elim (by omega))
      refine lv_aload_n hx hb dX1_spread_61 rfl (lv_at hl 1 rfl) ?_
      refine va_get (D := (dC, dI)) (ci := 1) (v := .int (nI rn)) (C := RX1) (T := TX1) (N := 10) hx hb hts hin1 hown hK hP 0 rfl rfl 0 (by decide) lk36 (fun _ h9 => h9) rfl dX1_spread_62 ?_
      refine lv_iconst (v := nI 2) hx hb dX1_spread_65 (by decide) ?_
      refine lv_isub hx hb dX1_spread_66 ?_
      refine gz_topI (y := gRow (rn - 1)) (gRow_top hrn.1) ?_
      refine lv_istore_n (lv' := [(2, .int (gRow (rn - 1))), (0, .ref gm), (1, .int (nI ln))]) hx hb dX1_spread_67 rfl hl (by decide) rfl (fun ls hl => ?_)
      exact loop2 (rn - 1) (gDn fl ln fp i) (by omega) (gDn_01 hfp i) (by rw [show rn - 1 = i by omega]) H locs hP hD hS ls (lv_sub hl [0, 1, 2] rfl)
    | succ n ih =>
      intro i hi H locs hP hD hS ls hl
      rcases hfl (i * 13 + ln) (by omega) with hf | hf
      · skip
        refine lv_iload_n hx hb dX1_spread_2 rfl (lv_at hl 0 rfl) ?_
        refine lv_iconst (v := nI 1) hx hb dX1_spread_3 (by decide) ?_
        refine gz_iadd (i := i) (j := 1) hx hb dX1_spread_4 ?_
        refine lv_aload_n hx hb dX1_spread_5 rfl (lv_at hl 1 rfl) ?_
        refine va_get (D := (dC, dI)) (ci := 1) (v := .int (nI rn)) (C := RX1) (T := TX1) (N := 10) hx hb hts hin1 hown hK hP 0 rfl rfl 0 (by decide) lk36 (fun _ h9 => h9) rfl dX1_spread_6 ?_
        refine gz_icmp_ge (tgt := 61) (za := ((i + 1 : Nat) : Int)) (zb := ((rn : Nat) : Int)) hx hb dX1_spread_9 (by decide) (nI_toInt (by omega)) (nI_toInt (by omega)) (fun c_1 => False.elim (by omega)) (fun c_1 => ?_)
        refine lv_aload_n hx hb dX1_spread_12 rfl (lv_at hl 1 rfl) ?_
        refine va_get (D := (dC, dI)) (ci := 1) (v := .ref al) (C := RX1) (T := TX1) (N := 10) hx hb hts hin1 hown hK hP 0 rfl rfl 5 (by decide) lk19 (fun _ h9 => h9) rfl dX1_spread_13 ?_
        refine lv_bipush (v := nI 13) hx hb dX1_spread_16 (by decide) ?_
        refine lv_iload_n hx hb dX1_spread_18 rfl (lv_at hl 0 rfl) ?_
        refine gz_imulc (i := 13) (j := i) hx hb dX1_spread_19 ?_
        refine lv_iload_n hx hb dX1_spread_20 rfl (lv_at hl 2 rfl) ?_
        refine gz_iadd (i := i * 13) (j := ln) hx hb dX1_spread_21 ?_
        refine gz_zald (k := (i * 13) + ln) hx hb hK hP 4 1 rfl rfl (by omega) (by omega) dX1_spread_22 ?_
        refine lv_if_eq (tgt := 55) hx hb dX1_spread_23 (by decide) (fun c_2 => ?_) (fun c_2 => False.elim (c_2 hf))
        refine lv_iinc (v := nI (i + 1)) (lv' := [(2, .int (nI (i + 1))), (0, .ref gm), (1, .int (nI ln))]) hx hb dX1_spread_55 hl (k := 0) rfl (nI_1 _) (by decide) rfl (fun ls hl => ?_)
        refine lv_goto (tgt := 2) hx hb dX1_spread_58 (by decide) ?_
        have hd : gDn fl ln fp (i + 1) = gDn fl ln fp i := by show gDn1 fl ln i (gDn fl ln fp i) = _; unfold gDn1; rw [if_neg (by rw [hf]; decide)]
        exact ih (i + 1) (by omega) H locs (by rw [hd]; exact hP) (by rw [hd]; exact hD) hS ls (lv_sub hl [0, 1, 2] rfl)
      · rcases gDn_01 (fl := fl) (ln := ln) hfp i (i * 13 + ln) (by omega) with hg1 | hg1
        · skip
          refine lv_iload_n hx hb dX1_spread_2 rfl (lv_at hl 0 rfl) ?_
          refine lv_iconst (v := nI 1) hx hb dX1_spread_3 (by decide) ?_
          refine gz_iadd (i := i) (j := 1) hx hb dX1_spread_4 ?_
          refine lv_aload_n hx hb dX1_spread_5 rfl (lv_at hl 1 rfl) ?_
          refine va_get (D := (dC, dI)) (ci := 1) (v := .int (nI rn)) (C := RX1) (T := TX1) (N := 10) hx hb hts hin1 hown hK hP 0 rfl rfl 0 (by decide) lk36 (fun _ h9 => h9) rfl dX1_spread_6 ?_
          refine gz_icmp_ge (tgt := 61) (za := ((i + 1 : Nat) : Int)) (zb := ((rn : Nat) : Int)) hx hb dX1_spread_9 (by decide) (nI_toInt (by omega)) (nI_toInt (by omega)) (fun c_1 => False.elim (by omega)) (fun c_1 => ?_)
          refine lv_aload_n hx hb dX1_spread_12 rfl (lv_at hl 1 rfl) ?_
          refine va_get (D := (dC, dI)) (ci := 1) (v := .ref al) (C := RX1) (T := TX1) (N := 10) hx hb hts hin1 hown hK hP 0 rfl rfl 5 (by decide) lk19 (fun _ h9 => h9) rfl dX1_spread_13 ?_
          refine lv_bipush (v := nI 13) hx hb dX1_spread_16 (by decide) ?_
          refine lv_iload_n hx hb dX1_spread_18 rfl (lv_at hl 0 rfl) ?_
          refine gz_imulc (i := 13) (j := i) hx hb dX1_spread_19 ?_
          refine lv_iload_n hx hb dX1_spread_20 rfl (lv_at hl 2 rfl) ?_
          refine gz_iadd (i := i * 13) (j := ln) hx hb dX1_spread_21 ?_
          refine gz_zald (k := (i * 13) + ln) hx hb hK hP 4 1 rfl rfl (by omega) (by omega) dX1_spread_22 ?_
          refine lv_if_eq (tgt := 55) hx hb dX1_spread_23 (by decide) (fun c_2 => False.elim (absurd (hf.symm.trans c_2) (by decide))) (fun c_2 => ?_)
          refine lv_aload_n hx hb dX1_spread_26 rfl (lv_at hl 1 rfl) ?_
          refine va_get (D := (dC, dI)) (ci := 1) (v := .ref ap) (C := RX1) (T := TX1) (N := 10) hx hb hts hin1 hown hK hP 0 rfl rfl 8 (by decide) lk29 (fun _ h9 => h9) rfl dX1_spread_27 ?_
          refine lv_bipush (v := nI 13) hx hb dX1_spread_30 (by decide) ?_
          refine lv_iload_n hx hb dX1_spread_32 rfl (lv_at hl 0 rfl) ?_
          refine gz_imulc (i := 13) (j := i) hx hb dX1_spread_33 ?_
          refine lv_iload_n hx hb dX1_spread_34 rfl (lv_at hl 2 rfl) ?_
          refine gz_iadd (i := i * 13) (j := ln) hx hb dX1_spread_35 ?_
          refine gz_zald (k := (i * 13) + ln) hx hb hK hP 7 1 rfl rfl (by omega) (by omega) dX1_spread_36 ?_
          refine lv_if_eq (tgt := 55) hx hb dX1_spread_37 (by decide) (fun c_3 => ?_) (fun c_3 => False.elim (c_3 hg1))
          refine lv_iinc (v := nI (i + 1)) (lv' := [(2, .int (nI (i + 1))), (0, .ref gm), (1, .int (nI ln))]) hx hb dX1_spread_55 hl (k := 0) rfl (nI_1 _) (by decide) rfl (fun ls hl => ?_)
          refine lv_goto (tgt := 2) hx hb dX1_spread_58 (by decide) ?_
          have hd : gDn fl ln fp (i + 1) = gDn fl ln fp i := by show gDn1 fl ln i (gDn fl ln fp i) = _; unfold gDn1; rw [if_pos hf, if_neg (by rw [hg1]; decide)]
          exact ih (i + 1) (by omega) H locs (by rw [hd]; exact hP) (by rw [hd]; exact hD) hS ls (lv_sub hl [0, 1, 2] rfl)
        · skip
          refine lv_iload_n hx hb dX1_spread_2 rfl (lv_at hl 0 rfl) ?_
          refine lv_iconst (v := nI 1) hx hb dX1_spread_3 (by decide) ?_
          refine gz_iadd (i := i) (j := 1) hx hb dX1_spread_4 ?_
          refine lv_aload_n hx hb dX1_spread_5 rfl (lv_at hl 1 rfl) ?_
          refine va_get (D := (dC, dI)) (ci := 1) (v := .int (nI rn)) (C := RX1) (T := TX1) (N := 10) hx hb hts hin1 hown hK hP 0 rfl rfl 0 (by decide) lk36 (fun _ h9 => h9) rfl dX1_spread_6 ?_
          refine gz_icmp_ge (tgt := 61) (za := ((i + 1 : Nat) : Int)) (zb := ((rn : Nat) : Int)) hx hb dX1_spread_9 (by decide) (nI_toInt (by omega)) (nI_toInt (by omega)) (fun c_1 => False.elim (by omega)) (fun c_1 => ?_)
          refine lv_aload_n hx hb dX1_spread_12 rfl (lv_at hl 1 rfl) ?_
          refine va_get (D := (dC, dI)) (ci := 1) (v := .ref al) (C := RX1) (T := TX1) (N := 10) hx hb hts hin1 hown hK hP 0 rfl rfl 5 (by decide) lk19 (fun _ h9 => h9) rfl dX1_spread_13 ?_
          refine lv_bipush (v := nI 13) hx hb dX1_spread_16 (by decide) ?_
          refine lv_iload_n hx hb dX1_spread_18 rfl (lv_at hl 0 rfl) ?_
          refine gz_imulc (i := 13) (j := i) hx hb dX1_spread_19 ?_
          refine lv_iload_n hx hb dX1_spread_20 rfl (lv_at hl 2 rfl) ?_
          refine gz_iadd (i := i * 13) (j := ln) hx hb dX1_spread_21 ?_
          refine gz_zald (k := (i * 13) + ln) hx hb hK hP 4 1 rfl rfl (by omega) (by omega) dX1_spread_22 ?_
          refine lv_if_eq (tgt := 55) hx hb dX1_spread_23 (by decide) (fun c_2 => False.elim (absurd (hf.symm.trans c_2) (by decide))) (fun c_2 => ?_)
          refine lv_aload_n hx hb dX1_spread_26 rfl (lv_at hl 1 rfl) ?_
          refine va_get (D := (dC, dI)) (ci := 1) (v := .ref ap) (C := RX1) (T := TX1) (N := 10) hx hb hts hin1 hown hK hP 0 rfl rfl 8 (by decide) lk29 (fun _ h9 => h9) rfl dX1_spread_27 ?_
          refine lv_bipush (v := nI 13) hx hb dX1_spread_30 (by decide) ?_
          refine lv_iload_n hx hb dX1_spread_32 rfl (lv_at hl 0 rfl) ?_
          refine gz_imulc (i := 13) (j := i) hx hb dX1_spread_33 ?_
          refine lv_iload_n hx hb dX1_spread_34 rfl (lv_at hl 2 rfl) ?_
          refine gz_iadd (i := i * 13) (j := ln) hx hb dX1_spread_35 ?_
          refine gz_zald (k := (i * 13) + ln) hx hb hK hP 7 1 rfl rfl (by omega) (by omega) dX1_spread_36 ?_
          refine lv_if_eq (tgt := 55) hx hb dX1_spread_37 (by decide) (fun c_3 => False.elim (absurd (hg1.symm.trans c_3) (by decide))) (fun c_3 => ?_)
          refine lv_aload_n hx hb dX1_spread_40 rfl (lv_at hl 1 rfl) ?_
          refine va_get (D := (dC, dI)) (ci := 1) (v := .ref ap) (C := RX1) (T := TX1) (N := 10) hx hb hts hin1 hown hK hP 0 rfl rfl 8 (by decide) lk29 (fun _ h9 => h9) rfl dX1_spread_41 ?_
          refine lv_bipush (v := nI 13) hx hb dX1_spread_44 (by decide) ?_
          refine lv_iload_n hx hb dX1_spread_46 rfl (lv_at hl 0 rfl) ?_
          refine gz_imulc (i := 13) (j := i) hx hb dX1_spread_47 ?_
          refine lv_bipush (v := nI 13) hx hb dX1_spread_48 (by decide) ?_
          refine gz_iadd (i := i * 13) (j := 13) hx hb dX1_spread_50 ?_
          refine lv_iload_n hx hb dX1_spread_51 rfl (lv_at hl 2 rfl) ?_
          refine gz_iadd (i := (i * 13) + 13) (j := ln) hx hb dX1_spread_52 ?_
          refine gz_top (j := (i + 1) * 13 + ln) (by omega) ?_
          refine lv_iconst (v := nI 1) hx hb dX1_spread_53 (by decide) ?_
          refine gz_zast (k := (i + 1) * 13 + ln) hx hb hK hP hD hS 7 1 rfl rfl gz_nar1 (by omega) (by omega) dX1_spread_54 (fun H locs hP hD hS => ?_)
          have hP : va_P (dC, dI) vwCl (mw cA cZ gm ak ac ab al av ah ap fk fc fs fl (upd (gDn fl ln fp i) ((i + 1) * 13 + ln) (nI 1)) fv ft (nI rn) (nI cn) sc) H := hP
          have hD : va_D A (mw cA cZ gm ak ac ab al av ah ap fk fc fs fl (upd (gDn fl ln fp i) ((i + 1) * 13 + ln) (nI 1)) fv ft (nI rn) (nI cn) sc) := hD
          refine lv_iinc (v := nI (i + 1)) (lv' := [(2, .int (nI (i + 1))), (0, .ref gm), (1, .int (nI ln))]) hx hb dX1_spread_55 hl (k := 0) rfl (nI_1 _) (by decide) rfl (fun ls hl => ?_)
          refine lv_goto (tgt := 2) hx hb dX1_spread_58 (by decide) ?_
          have hd : gDn fl ln fp (i + 1) = upd (gDn fl ln fp i) ((i + 1) * 13 + ln) (nI 1) := by show gDn1 fl ln i (gDn fl ln fp i) = _; unfold gDn1; rw [if_pos hf, if_pos hg1]
          exact ih (i + 1) (by omega) H locs (by rw [hd]; exact hP) (by rw [hd]; exact hD) hS ls (lv_sub hl [0, 1, 2] rfl)
  refine lv_iconst (v := nI 0) hx hb dX1_spread_0 (by decide) ?_
  refine lv_istore_n (lv' := [(2, .int (nI 0)), (0, .ref gm), (1, .int (nI ln))]) hx hb dX1_spread_1 rfl hl (by decide) rfl (fun ls hl => ?_)
  exact loop1 (rn - 1) 0 (by omega) H locs hP hD hS ls (lv_sub hl [0, 1, 2] rfl)
set_option maxHeartbeats 4000000 in
set_option maxRecDepth 100000 in
theorem cM_coils (l : Launch) (dC : Nat → ClassId) (dI : Nat → Nat → Nat) (sz : Nat) (cA cZ : ClassId) (gm ak ac ab al av ah ap : Nat) (fk fc fs fl fp fv ft : Nat → Int32) (rn cn : Nat) (sc : Int32)  (hrn : 1 ≤ rn ∧ rn ≤ 12) (hcn : 1 ≤ cn ∧ cn ≤ 12) (hcI : ∀ k, k < 144 → vp_in (fc k) 40) (hkI : ∀ k, k < 144 → vp_in (fk k) 10) (hfp : g01 156 fp) : Met l yX1_coils wsX1_coils ({ frames := 0, cells := 0, slots := 0, locals := 0 }) (gPw (dC, dI) vwCl [(cA, .int), (cZ, .boolean)] [.ref gm] sz (mw cA cZ gm ak ac ab al av ah ap fk fc fs fl fp fv ft (nI rn) (nI cn) sc)) (gQA (dC, dI) vwCl [(cA, .int), (cZ, .boolean)] ((gCo fk fc fp cn (fv, nI 0) rn).2) (va_A (mw cA cZ gm ak ac ab al av ah ap fk fc fs fl fp fv ft (nI rn) (nI cn) sc) sz) (mw cA cZ gm ak ac ab al av ah ap fk fc fs fl fp ((gCo fk fc fp cn (fv, nI 0) rn).1) ft (nI rn) (nI cn) sc)) 0 0 (va_A (mw cA cZ gm ak ac ab al av ah ap fk fc fs fl fp fv ft (nI rn) (nI cn) sc) sz) := by
  refine Met.ofW (cc := cX1_coils) (maxL := 7) (ret := (some .int)) (by decide) rfl ?_
  intro p e s m args below meth c s₁ B hml hv
  obtain ⟨rfl, hsz, hP, hK, hD0⟩ := hv
  have hx := B.exec
  have hb := B.bytes
  have hr := B.returns
  have hts := atoms_spec (ws := wsX1_coils) B.pre
  have hown : s.vm.findClass RX1 = some m.cls := findClass_of_methodNamed B.named
  have hlocks := B.notSynchronized
  subst hsz
  have hD := hD0.self (sz := s.heap.size)
  generalize hAe : va_A (mw cA cZ gm ak ac ab al av ah ap fk fc fs fl fp fv ft (nI rn) (nI cn) sc) s.heap.size = A at hD ⊢
  have hA : ∀ q : Nat, s.heap.size ≤ q → A q := fun q h => by rw [← hAe]; exact Or.inr h
  have hS : va_S A s.heap s.heap [] := va_S.rf
  have hin1 : ∀ w ∈ u_ws RX1 TX1 10, w ∈ wsX1_coils := by decide +kernel
  have lk36 := hts (.fieldLink RX1 36 "LadderGridModel" "rows" "I") (by decide +kernel)
  have lk40 := hts (.fieldLink RX1 40 "LadderGridModel" "columns" "I") (by decide +kernel)
  have lk29 := hts (.fieldLink RX1 29 "LadderGridModel" "hasPower" "[Z") (by decide +kernel)
  have lk13 := hts (.fieldLink RX1 13 "LadderGridModel" "variables" "[I") (by decide +kernel)
  have lk7 := hts (.fieldLink RX1 7 "LadderGridModel" "kinds" "[I") (by decide +kernel)
  have lk23 := hts (.fieldLink RX1 23 "LadderGridModel" "values" "[I") (by decide +kernel)
  have hl := lv_entry ([.ref gm]) (n := 7) (Nat.le_of_ble_eq_true rfl)
  rw [lg_entry_eq]
  generalize (lg_sl ([.ref gm]) ++ List.replicate (7 - (lg_sl ([.ref gm])).length) Slot.unset).toArray = ls at hl ⊢
  have hl : lv_has ls 7 [(0, .ref gm)] := hl
  suffices key : ∀ (H : Heap) (locs : List Loc), va_P (dC, dI) vwCl (mw cA cZ gm ak ac ab al av ah ap fk fc fs fl fp fv ft (nI rn) (nI cn) sc) H → va_D A (mw cA cZ gm ak ac ab al av ah ap fk fc fs fl fp fv ft (nI rn) (nI cn) sc) → va_S A s.heap H locs → W p l e (headSpec wsX1_coils ({ frames := 0, cells := 0, slots := 0, locals := 0 })).room s m ([.ref gm] : List Value).toArray below meth c H locs 0 0 (MQ below (gQA (dC, dI) vwCl [(cA, .int), (cZ, .boolean)] ((gCo fk fc fp cn (fv, nI 0) rn).2) A (mw cA cZ gm ak ac ab al av ah ap fk fc fs fl fp ((gCo fk fc fp cn (fv, nI 0) rn).1) ft (nI rn) (nI cn) sc)) ([.ref gm] : List Value).toArray s 0 0 A) (F0 m 0 ls []) from key s.heap [] hP hD hS
  clear hP hD hS
  intro H locs hP hD hS
  have loop : ∀ (n : Nat) (i : Nat) (q : (Nat → Int32) × Int32), i + n = rn → q = gCo fk fc fp cn (fv, nI 0) i → ∀ (H : Heap) (locs : List Loc), va_P (dC, dI) vwCl (mw cA cZ gm ak ac ab al av ah ap fk fc fs fl fp q.1 ft (nI rn) (nI cn) sc) H → va_D A (mw cA cZ gm ak ac ab al av ah ap fk fc fs fl fp q.1 ft (nI rn) (nI cn) sc) → va_S A s.heap H locs → ∀ (ls : Array Slot), lv_has ls 7 [(2, .int (nI i)), (1, .int (q.2)), (0, .ref gm)] → W p l e (headSpec wsX1_coils ({ frames := 0, cells := 0, slots := 0, locals := 0 })).room s m ([.ref gm] : List Value).toArray below meth c H locs 0 0 (MQ below (gQA (dC, dI) vwCl [(cA, .int), (cZ, .boolean)] ((gCo fk fc fp cn (fv, nI 0) rn).2) A (mw cA cZ gm ak ac ab al av ah ap fk fc fs fl fp ((gCo fk fc fp cn (fv, nI 0) rn).1) ft (nI rn) (nI cn) sc)) ([.ref gm] : List Value).toArray s 0 0 A) (F0 m 4 ls []) := by
    intro n
    induction n with
    | zero =>
      intro i q hi hq H locs hP hD hS ls hl
      refine lv_iload_n hx hb dX1_coils_4 rfl (lv_at hl 0 rfl) ?_
      refine lv_aload_n hx hb dX1_coils_5 rfl (lv_at hl 2 rfl) ?_
      refine va_get (D := (dC, dI)) (ci := 1) (v := .int (nI rn)) (C := RX1) (T := TX1) (N := 10) hx hb hts hin1 hown hK hP 0 rfl rfl 0 (by decide) lk36 (fun _ h9 => h9) rfl dX1_coils_6 ?_
      refine gz_icmp_ge (tgt := 161) (za := ((i : Nat) : Int)) (zb := ((rn : Nat) : Int)) hx hb dX1_coils_9 (by decide) (nI_toInt (by omega)) (nI_toInt (by omega)) (fun c_1 => ?_) (fun c_1 => False.elim (by omega))
      refine lv_iload_n hx hb dX1_coils_161 rfl (lv_at hl 1 rfl) ?_
      exact W.iret (v := q.2) hx hb hr (fun t ht hW => ⟨⟨q.2, (), rfl, (by rw [show rn = i by omega, ← hq]), by rw [ht]; exact (by rw [show gCo fk fc fp cn (fv, nI 0) rn = q by rw [hq, show i = rn by omega]]; exact hP), va_K.moved hW.alike hK, (by rw [show gCo fk fc fp cn (fv, nI 0) rn = q by rw [hq, show i = rn by omega]]; exact hD)⟩, hS.F ht⟩) hS.2.2 dX1_coils_162
    | succ n ih =>
      intro i q hi hq H locs hP hD hS ls hl
      have hci : vp_in (fc (i * 12 + (cn - 1))) 40 := hcI _ (by omega)
      obtain ⟨kk, hkk, ek⟩ := vp_in_of (hkI (i * 12 + (cn - 1)) (by omega)) (by omega)
      have zk : (fk (i * 12 + (cn - 1))).toInt = (kk : Int) := by rw [ek]; exact nI_toInt (by omega)
      by_cases hco : 6 ≤ (fk (i * 12 + (cn - 1))).toInt
      · have h69 : kk = 6 ∨ kk = 7 ∨ kk = 8 ∨ kk = 9 := by omega
        rcases h69 with hkv | hkv | hkv | hkv
        · subst hkv
          rcases hfp (i * 13 + (cn - 1)) (by omega) with hp | hp
          · skip
            refine lv_iload_n hx hb dX1_coils_4 rfl (lv_at hl 0 rfl) ?_
            refine lv_aload_n hx hb dX1_coils_5 rfl (lv_at hl 2 rfl) ?_
            refine va_get (D := (dC, dI)) (ci := 1) (v := .int (nI rn)) (C := RX1) (T := TX1) (N := 10) hx hb hts hin1 hown hK hP 0 rfl rfl 0 (by decide) lk36 (fun _ h9 => h9) rfl dX1_coils_6 ?_
            refine gz_icmp_ge (tgt := 161) (za := ((i : Nat) : Int)) (zb := ((rn : Nat) : Int)) hx hb dX1_coils_9 (by decide) (nI_toInt (by omega)) (nI_toInt (by omega)) (fun c_1 => False.elim (by omega)) (fun c_1 => ?_)
            refine lv_bipush (v := nI 12) hx hb dX1_coils_12 (by decide) ?_
            refine lv_iload_n hx hb dX1_coils_14 rfl (lv_at hl 0 rfl) ?_
            refine gz_imulc (i := 12) (j := i) hx hb dX1_coils_15 ?_
            refine lv_aload_n hx hb dX1_coils_16 rfl (lv_at hl 2 rfl) ?_
            refine va_get (D := (dC, dI)) (ci := 1) (v := .int (nI cn)) (C := RX1) (T := TX1) (N := 10) hx hb hts hin1 hown hK hP 0 rfl rfl 1 (by decide) lk40 (fun _ h9 => h9) rfl dX1_coils_17 ?_
            refine gz_iadd (i := i * 12) (j := cn) hx hb dX1_coils_20 ?_
            refine lv_iconst (v := nI 1) hx hb dX1_coils_21 (by decide) ?_
            refine gz_isub (i := (i * 12) + cn) (j := 1) hx hb dX1_coils_22 (by omega) ?_
            refine gz_top (j := i * 12 + (cn - 1)) (by omega) ?_
            refine lv_istore_n (lv' := [(3, .int (nI (i * 12 + (cn - 1)))), (2, .int (nI i)), (1, .int (q.2)), (0, .ref gm)]) hx hb dX1_coils_23 rfl hl (by decide) rfl (fun ls hl => ?_)
            refine lv_aload_n hx hb dX1_coils_24 rfl (lv_at hl 3 rfl) ?_
            refine va_get (D := (dC, dI)) (ci := 1) (v := .ref ap) (C := RX1) (T := TX1) (N := 10) hx hb hts hin1 hown hK hP 0 rfl rfl 8 (by decide) lk29 (fun _ h9 => h9) rfl dX1_coils_25 ?_
            refine lv_bipush (v := nI 13) hx hb dX1_coils_28 (by decide) ?_
            refine lv_iload_n hx hb dX1_coils_30 rfl (lv_at hl 1 rfl) ?_
            refine gz_imulc (i := 13) (j := i) hx hb dX1_coils_31 ?_
            refine lv_aload_n hx hb dX1_coils_32 rfl (lv_at hl 3 rfl) ?_
            refine va_get (D := (dC, dI)) (ci := 1) (v := .int (nI cn)) (C := RX1) (T := TX1) (N := 10) hx hb hts hin1 hown hK hP 0 rfl rfl 1 (by decide) lk40 (fun _ h9 => h9) rfl dX1_coils_33 ?_
            refine gz_iadd (i := i * 13) (j := cn) hx hb dX1_coils_36 ?_
            refine lv_iconst (v := nI 1) hx hb dX1_coils_37 (by decide) ?_
            refine gz_isub (i := (i * 13) + cn) (j := 1) hx hb dX1_coils_38 (by omega) ?_
            refine gz_top (j := i * 13 + (cn - 1)) (by omega) ?_
            refine gz_zald (k := i * 13 + (cn - 1)) hx hb hK hP 7 1 rfl rfl (by omega) (by omega) dX1_coils_39 ?_
            refine lv_istore (lv' := [(4, .int (fp (i * 13 + (cn - 1)))), (3, .int (nI (i * 12 + (cn - 1)))), (2, .int (nI i)), (1, .int (q.2)), (0, .ref gm)]) hx hb dX1_coils_40 hl (by decide) rfl (fun ls hl => ?_)
            refine lv_aload_n hx hb dX1_coils_42 rfl (lv_at hl 4 rfl) ?_
            refine va_get (D := (dC, dI)) (ci := 1) (v := .ref ac) (C := RX1) (T := TX1) (N := 10) hx hb hts hin1 hown hK hP 0 rfl rfl 3 (by decide) lk13 (fun _ h9 => h9) rfl dX1_coils_43 ?_
            refine lv_iload_n hx hb dX1_coils_46 rfl (lv_at hl 1 rfl) ?_
            refine gz_iald (k := i * 12 + (cn - 1)) hx hb hK hP 2 0 rfl rfl (by omega) (by omega) dX1_coils_47 ?_
            refine lv_istore (lv' := [(5, .int (fc (i * 12 + (cn - 1)))), (4, .int (fp (i * 13 + (cn - 1)))), (3, .int (nI (i * 12 + (cn - 1)))), (2, .int (nI i)), (1, .int (q.2)), (0, .ref gm)]) hx hb dX1_coils_48 hl (by decide) rfl (fun ls hl => ?_)
            refine lv_aload_n hx hb dX1_coils_50 rfl (lv_at hl 5 rfl) ?_
            refine va_get (D := (dC, dI)) (ci := 1) (v := .ref ak) (C := RX1) (T := TX1) (N := 10) hx hb hts hin1 hown hK hP 0 rfl rfl 2 (by decide) lk7 (fun _ h9 => h9) rfl dX1_coils_51 ?_
            refine lv_iload_n hx hb dX1_coils_54 rfl (lv_at hl 2 rfl) ?_
            refine gz_iald (k := i * 12 + (cn - 1)) hx hb hK hP 1 0 rfl rfl (by omega) (by omega) dX1_coils_55 ?_
            refine lv_bipush (v := nI 6) hx hb dX1_coils_56 (by decide) ?_
            refine gz_icmp_lt (tgt := 155) (za := (fk (i * 12 + (cn - 1))).toInt) (zb := ((6 : Nat) : Int)) hx hb dX1_coils_58 (by decide) rfl (nI_toInt (by omega)) (fun c_2 => False.elim (by omega)) (fun c_2 => ?_)
            refine lv_iload hx hb dX1_coils_61 (lv_at hl 1 rfl) ?_
            refine lv_if_eq (tgt := 72) hx hb dX1_coils_63 (by decide) (fun c_3 => ?_) (fun c_3 => False.elim (c_3 hp))
            refine lv_iload_n hx hb dX1_coils_72 rfl (lv_at hl 4 rfl) ?_
            refine lv_istore_n (lv' := [(1, .int (q.2)), (5, .int (fc (i * 12 + (cn - 1)))), (4, .int (fp (i * 13 + (cn - 1)))), (3, .int (nI (i * 12 + (cn - 1)))), (2, .int (nI i)), (0, .ref gm)]) hx hb dX1_coils_73 rfl hl (by decide) rfl (fun ls hl => ?_)
            refine lv_aload_n hx hb dX1_coils_74 rfl (lv_at hl 5 rfl) ?_
            refine va_get (D := (dC, dI)) (ci := 1) (v := .ref ak) (C := RX1) (T := TX1) (N := 10) hx hb hts hin1 hown hK hP 0 rfl rfl 2 (by decide) lk7 (fun _ h9 => h9) rfl dX1_coils_75 ?_
            refine lv_iload_n hx hb dX1_coils_78 rfl (lv_at hl 3 rfl) ?_
            refine gz_iald (k := i * 12 + (cn - 1)) hx hb hK hP 1 0 rfl rfl (by omega) (by omega) dX1_coils_79 ?_
            refine lv_bipush (v := nI 6) hx hb dX1_coils_80 (by decide) ?_
            refine lv_isub hx hb dX1_coils_82 ?_
            refine gz_topI (y := nI 0) (by rw [ek]; decide) ?_
            refine lv_istore (lv' := [(6, .int (nI 0)), (1, .int (q.2)), (5, .int (fc (i * 12 + (cn - 1)))), (4, .int (fp (i * 13 + (cn - 1)))), (3, .int (nI (i * 12 + (cn - 1)))), (2, .int (nI i)), (0, .ref gm)]) hx hb dX1_coils_83 hl (by decide) rfl (fun ls hl => ?_)
            refine lv_aload_n hx hb dX1_coils_85 rfl (lv_at hl 6 rfl) ?_
            refine va_get (D := (dC, dI)) (ci := 1) (v := .ref av) (C := RX1) (T := TX1) (N := 10) hx hb hts hin1 hown hK hP 0 rfl rfl 6 (by decide) lk23 (fun _ h9 => h9) rfl dX1_coils_86 ?_
            refine lv_iload hx hb dX1_coils_89 (lv_at hl 2 rfl) ?_
            refine lv_iload hx hb dX1_coils_91 (lv_at hl 0 rfl) ?_
            refine lv_if_ne (tgt := 109) hx hb dX1_coils_93 (by decide) (fun c_4 => False.elim (c_4 rfl)) (fun c_4 => ?_)
            refine lv_iload hx hb dX1_coils_96 (lv_at hl 3 rfl) ?_
            refine lv_if_eq (tgt := 105) hx hb dX1_coils_98 (by decide) (fun c_5 => ?_) (fun c_5 => False.elim (c_5 hp))
            refine lv_iconst (v := nI 0) hx hb dX1_coils_105 (by decide) ?_
            refine lv_goto (tgt := 154) hx hb dX1_coils_106 (by decide) ?_
            refine va_iast hx hb hK hP hD hS 5 0 rfl rfl hci dX1_coils_154 (fun H locs hP hD hS => ?_)
            have hP : va_P (dC, dI) vwCl (mw cA cZ gm ak ac ab al av ah ap fk fc fs fl fp (upd q.1 (fc (i * 12 + (cn - 1))).toNatClampNeg (nI 0)) ft (nI rn) (nI cn) sc) H := hP
            have hD : va_D A (mw cA cZ gm ak ac ab al av ah ap fk fc fs fl fp (upd q.1 (fc (i * 12 + (cn - 1))).toNatClampNeg (nI 0)) ft (nI rn) (nI cn) sc) := hD
            refine lv_iinc (v := nI (i + 1)) (lv' := [(2, .int (nI (i + 1))), (6, .int (nI 0)), (1, .int (q.2)), (5, .int (fc (i * 12 + (cn - 1)))), (4, .int (fp (i * 13 + (cn - 1)))), (3, .int (nI (i * 12 + (cn - 1)))), (0, .ref gm)]) hx hb dX1_coils_155 hl (k := 5) rfl (nI_1 _) (by decide) rfl (fun ls hl => ?_)
            refine lv_goto (tgt := 4) hx hb dX1_coils_158 (by decide) ?_
            exact ih (i + 1) (upd q.1 (fc (i * 12 + (cn - 1))).toNatClampNeg (nI 0), q.2) (by omega) (by show _ = gCo1 _ _ _ _ _ (gCo fk fc fp cn (fv, nI 0) i); rw [← hq]; unfold gCo1; rw [if_pos hco, ek, hp, gCoil_6, gz_add0]) H locs hP hD hS ls (lv_sub hl [0, 2, 6] rfl)
          · skip
            refine lv_iload_n hx hb dX1_coils_4 rfl (lv_at hl 0 rfl) ?_
            refine lv_aload_n hx hb dX1_coils_5 rfl (lv_at hl 2 rfl) ?_
            refine va_get (D := (dC, dI)) (ci := 1) (v := .int (nI rn)) (C := RX1) (T := TX1) (N := 10) hx hb hts hin1 hown hK hP 0 rfl rfl 0 (by decide) lk36 (fun _ h9 => h9) rfl dX1_coils_6 ?_
            refine gz_icmp_ge (tgt := 161) (za := ((i : Nat) : Int)) (zb := ((rn : Nat) : Int)) hx hb dX1_coils_9 (by decide) (nI_toInt (by omega)) (nI_toInt (by omega)) (fun c_1 => False.elim (by omega)) (fun c_1 => ?_)
            refine lv_bipush (v := nI 12) hx hb dX1_coils_12 (by decide) ?_
            refine lv_iload_n hx hb dX1_coils_14 rfl (lv_at hl 0 rfl) ?_
            refine gz_imulc (i := 12) (j := i) hx hb dX1_coils_15 ?_
            refine lv_aload_n hx hb dX1_coils_16 rfl (lv_at hl 2 rfl) ?_
            refine va_get (D := (dC, dI)) (ci := 1) (v := .int (nI cn)) (C := RX1) (T := TX1) (N := 10) hx hb hts hin1 hown hK hP 0 rfl rfl 1 (by decide) lk40 (fun _ h9 => h9) rfl dX1_coils_17 ?_
            refine gz_iadd (i := i * 12) (j := cn) hx hb dX1_coils_20 ?_
            refine lv_iconst (v := nI 1) hx hb dX1_coils_21 (by decide) ?_
            refine gz_isub (i := (i * 12) + cn) (j := 1) hx hb dX1_coils_22 (by omega) ?_
            refine gz_top (j := i * 12 + (cn - 1)) (by omega) ?_
            refine lv_istore_n (lv' := [(3, .int (nI (i * 12 + (cn - 1)))), (2, .int (nI i)), (1, .int (q.2)), (0, .ref gm)]) hx hb dX1_coils_23 rfl hl (by decide) rfl (fun ls hl => ?_)
            refine lv_aload_n hx hb dX1_coils_24 rfl (lv_at hl 3 rfl) ?_
            refine va_get (D := (dC, dI)) (ci := 1) (v := .ref ap) (C := RX1) (T := TX1) (N := 10) hx hb hts hin1 hown hK hP 0 rfl rfl 8 (by decide) lk29 (fun _ h9 => h9) rfl dX1_coils_25 ?_
            refine lv_bipush (v := nI 13) hx hb dX1_coils_28 (by decide) ?_
            refine lv_iload_n hx hb dX1_coils_30 rfl (lv_at hl 1 rfl) ?_
            refine gz_imulc (i := 13) (j := i) hx hb dX1_coils_31 ?_
            refine lv_aload_n hx hb dX1_coils_32 rfl (lv_at hl 3 rfl) ?_
            refine va_get (D := (dC, dI)) (ci := 1) (v := .int (nI cn)) (C := RX1) (T := TX1) (N := 10) hx hb hts hin1 hown hK hP 0 rfl rfl 1 (by decide) lk40 (fun _ h9 => h9) rfl dX1_coils_33 ?_
            refine gz_iadd (i := i * 13) (j := cn) hx hb dX1_coils_36 ?_
            refine lv_iconst (v := nI 1) hx hb dX1_coils_37 (by decide) ?_
            refine gz_isub (i := (i * 13) + cn) (j := 1) hx hb dX1_coils_38 (by omega) ?_
            refine gz_top (j := i * 13 + (cn - 1)) (by omega) ?_
            refine gz_zald (k := i * 13 + (cn - 1)) hx hb hK hP 7 1 rfl rfl (by omega) (by omega) dX1_coils_39 ?_
            refine lv_istore (lv' := [(4, .int (fp (i * 13 + (cn - 1)))), (3, .int (nI (i * 12 + (cn - 1)))), (2, .int (nI i)), (1, .int (q.2)), (0, .ref gm)]) hx hb dX1_coils_40 hl (by decide) rfl (fun ls hl => ?_)
            refine lv_aload_n hx hb dX1_coils_42 rfl (lv_at hl 4 rfl) ?_
            refine va_get (D := (dC, dI)) (ci := 1) (v := .ref ac) (C := RX1) (T := TX1) (N := 10) hx hb hts hin1 hown hK hP 0 rfl rfl 3 (by decide) lk13 (fun _ h9 => h9) rfl dX1_coils_43 ?_
            refine lv_iload_n hx hb dX1_coils_46 rfl (lv_at hl 1 rfl) ?_
            refine gz_iald (k := i * 12 + (cn - 1)) hx hb hK hP 2 0 rfl rfl (by omega) (by omega) dX1_coils_47 ?_
            refine lv_istore (lv' := [(5, .int (fc (i * 12 + (cn - 1)))), (4, .int (fp (i * 13 + (cn - 1)))), (3, .int (nI (i * 12 + (cn - 1)))), (2, .int (nI i)), (1, .int (q.2)), (0, .ref gm)]) hx hb dX1_coils_48 hl (by decide) rfl (fun ls hl => ?_)
            refine lv_aload_n hx hb dX1_coils_50 rfl (lv_at hl 5 rfl) ?_
            refine va_get (D := (dC, dI)) (ci := 1) (v := .ref ak) (C := RX1) (T := TX1) (N := 10) hx hb hts hin1 hown hK hP 0 rfl rfl 2 (by decide) lk7 (fun _ h9 => h9) rfl dX1_coils_51 ?_
            refine lv_iload_n hx hb dX1_coils_54 rfl (lv_at hl 2 rfl) ?_
            refine gz_iald (k := i * 12 + (cn - 1)) hx hb hK hP 1 0 rfl rfl (by omega) (by omega) dX1_coils_55 ?_
            refine lv_bipush (v := nI 6) hx hb dX1_coils_56 (by decide) ?_
            refine gz_icmp_lt (tgt := 155) (za := (fk (i * 12 + (cn - 1))).toInt) (zb := ((6 : Nat) : Int)) hx hb dX1_coils_58 (by decide) rfl (nI_toInt (by omega)) (fun c_2 => False.elim (by omega)) (fun c_2 => ?_)
            refine lv_iload hx hb dX1_coils_61 (lv_at hl 1 rfl) ?_
            refine lv_if_eq (tgt := 72) hx hb dX1_coils_63 (by decide) (fun c_3 => False.elim (absurd (hp.symm.trans c_3) (by decide))) (fun c_3 => ?_)
            refine lv_iload_n hx hb dX1_coils_66 rfl (lv_at hl 4 rfl) ?_
            refine lv_iconst (v := nI 1) hx hb dX1_coils_67 (by decide) ?_
            refine lv_iadd hx hb dX1_coils_68 ?_
            refine lv_goto (tgt := 73) hx hb dX1_coils_69 (by decide) ?_
            refine lv_istore_n (lv' := [(1, .int (q.2 + (nI 1))), (5, .int (fc (i * 12 + (cn - 1)))), (4, .int (fp (i * 13 + (cn - 1)))), (3, .int (nI (i * 12 + (cn - 1)))), (2, .int (nI i)), (0, .ref gm)]) hx hb dX1_coils_73 rfl hl (by decide) rfl (fun ls hl => ?_)
            refine lv_aload_n hx hb dX1_coils_74 rfl (lv_at hl 5 rfl) ?_
            refine va_get (D := (dC, dI)) (ci := 1) (v := .ref ak) (C := RX1) (T := TX1) (N := 10) hx hb hts hin1 hown hK hP 0 rfl rfl 2 (by decide) lk7 (fun _ h9 => h9) rfl dX1_coils_75 ?_
            refine lv_iload_n hx hb dX1_coils_78 rfl (lv_at hl 3 rfl) ?_
            refine gz_iald (k := i * 12 + (cn - 1)) hx hb hK hP 1 0 rfl rfl (by omega) (by omega) dX1_coils_79 ?_
            refine lv_bipush (v := nI 6) hx hb dX1_coils_80 (by decide) ?_
            refine lv_isub hx hb dX1_coils_82 ?_
            refine gz_topI (y := nI 0) (by rw [ek]; decide) ?_
            refine lv_istore (lv' := [(6, .int (nI 0)), (1, .int (q.2 + (nI 1))), (5, .int (fc (i * 12 + (cn - 1)))), (4, .int (fp (i * 13 + (cn - 1)))), (3, .int (nI (i * 12 + (cn - 1)))), (2, .int (nI i)), (0, .ref gm)]) hx hb dX1_coils_83 hl (by decide) rfl (fun ls hl => ?_)
            refine lv_aload_n hx hb dX1_coils_85 rfl (lv_at hl 6 rfl) ?_
            refine va_get (D := (dC, dI)) (ci := 1) (v := .ref av) (C := RX1) (T := TX1) (N := 10) hx hb hts hin1 hown hK hP 0 rfl rfl 6 (by decide) lk23 (fun _ h9 => h9) rfl dX1_coils_86 ?_
            refine lv_iload hx hb dX1_coils_89 (lv_at hl 2 rfl) ?_
            refine lv_iload hx hb dX1_coils_91 (lv_at hl 0 rfl) ?_
            refine lv_if_ne (tgt := 109) hx hb dX1_coils_93 (by decide) (fun c_4 => False.elim (c_4 rfl)) (fun c_4 => ?_)
            refine lv_iload hx hb dX1_coils_96 (lv_at hl 3 rfl) ?_
            refine lv_if_eq (tgt := 105) hx hb dX1_coils_98 (by decide) (fun c_5 => False.elim (absurd (hp.symm.trans c_5) (by decide))) (fun c_5 => ?_)
            refine lv_iconst (v := nI 1) hx hb dX1_coils_101 (by decide) ?_
            refine lv_goto (tgt := 154) hx hb dX1_coils_102 (by decide) ?_
            refine va_iast hx hb hK hP hD hS 5 0 rfl rfl hci dX1_coils_154 (fun H locs hP hD hS => ?_)
            have hP : va_P (dC, dI) vwCl (mw cA cZ gm ak ac ab al av ah ap fk fc fs fl fp (upd q.1 (fc (i * 12 + (cn - 1))).toNatClampNeg (nI 1)) ft (nI rn) (nI cn) sc) H := hP
            have hD : va_D A (mw cA cZ gm ak ac ab al av ah ap fk fc fs fl fp (upd q.1 (fc (i * 12 + (cn - 1))).toNatClampNeg (nI 1)) ft (nI rn) (nI cn) sc) := hD
            refine lv_iinc (v := nI (i + 1)) (lv' := [(2, .int (nI (i + 1))), (6, .int (nI 0)), (1, .int (q.2 + (nI 1))), (5, .int (fc (i * 12 + (cn - 1)))), (4, .int (fp (i * 13 + (cn - 1)))), (3, .int (nI (i * 12 + (cn - 1)))), (0, .ref gm)]) hx hb dX1_coils_155 hl (k := 5) rfl (nI_1 _) (by decide) rfl (fun ls hl => ?_)
            refine lv_goto (tgt := 4) hx hb dX1_coils_158 (by decide) ?_
            exact ih (i + 1) (upd q.1 (fc (i * 12 + (cn - 1))).toNatClampNeg (nI 1), q.2 + (nI 1)) (by omega) (by show _ = gCo1 _ _ _ _ _ (gCo fk fc fp cn (fv, nI 0) i); rw [← hq]; unfold gCo1; rw [if_pos hco, ek, hp, gCoil_6]) H locs hP hD hS ls (lv_sub hl [0, 2, 6] rfl)
        · subst hkv
          rcases hfp (i * 13 + (cn - 1)) (by omega) with hp | hp
          · skip
            refine lv_iload_n hx hb dX1_coils_4 rfl (lv_at hl 0 rfl) ?_
            refine lv_aload_n hx hb dX1_coils_5 rfl (lv_at hl 2 rfl) ?_
            refine va_get (D := (dC, dI)) (ci := 1) (v := .int (nI rn)) (C := RX1) (T := TX1) (N := 10) hx hb hts hin1 hown hK hP 0 rfl rfl 0 (by decide) lk36 (fun _ h9 => h9) rfl dX1_coils_6 ?_
            refine gz_icmp_ge (tgt := 161) (za := ((i : Nat) : Int)) (zb := ((rn : Nat) : Int)) hx hb dX1_coils_9 (by decide) (nI_toInt (by omega)) (nI_toInt (by omega)) (fun c_1 => False.elim (by omega)) (fun c_1 => ?_)
            refine lv_bipush (v := nI 12) hx hb dX1_coils_12 (by decide) ?_
            refine lv_iload_n hx hb dX1_coils_14 rfl (lv_at hl 0 rfl) ?_
            refine gz_imulc (i := 12) (j := i) hx hb dX1_coils_15 ?_
            refine lv_aload_n hx hb dX1_coils_16 rfl (lv_at hl 2 rfl) ?_
            refine va_get (D := (dC, dI)) (ci := 1) (v := .int (nI cn)) (C := RX1) (T := TX1) (N := 10) hx hb hts hin1 hown hK hP 0 rfl rfl 1 (by decide) lk40 (fun _ h9 => h9) rfl dX1_coils_17 ?_
            refine gz_iadd (i := i * 12) (j := cn) hx hb dX1_coils_20 ?_
            refine lv_iconst (v := nI 1) hx hb dX1_coils_21 (by decide) ?_
            refine gz_isub (i := (i * 12) + cn) (j := 1) hx hb dX1_coils_22 (by omega) ?_
            refine gz_top (j := i * 12 + (cn - 1)) (by omega) ?_
            refine lv_istore_n (lv' := [(3, .int (nI (i * 12 + (cn - 1)))), (2, .int (nI i)), (1, .int (q.2)), (0, .ref gm)]) hx hb dX1_coils_23 rfl hl (by decide) rfl (fun ls hl => ?_)
            refine lv_aload_n hx hb dX1_coils_24 rfl (lv_at hl 3 rfl) ?_
            refine va_get (D := (dC, dI)) (ci := 1) (v := .ref ap) (C := RX1) (T := TX1) (N := 10) hx hb hts hin1 hown hK hP 0 rfl rfl 8 (by decide) lk29 (fun _ h9 => h9) rfl dX1_coils_25 ?_
            refine lv_bipush (v := nI 13) hx hb dX1_coils_28 (by decide) ?_
            refine lv_iload_n hx hb dX1_coils_30 rfl (lv_at hl 1 rfl) ?_
            refine gz_imulc (i := 13) (j := i) hx hb dX1_coils_31 ?_
            refine lv_aload_n hx hb dX1_coils_32 rfl (lv_at hl 3 rfl) ?_
            refine va_get (D := (dC, dI)) (ci := 1) (v := .int (nI cn)) (C := RX1) (T := TX1) (N := 10) hx hb hts hin1 hown hK hP 0 rfl rfl 1 (by decide) lk40 (fun _ h9 => h9) rfl dX1_coils_33 ?_
            refine gz_iadd (i := i * 13) (j := cn) hx hb dX1_coils_36 ?_
            refine lv_iconst (v := nI 1) hx hb dX1_coils_37 (by decide) ?_
            refine gz_isub (i := (i * 13) + cn) (j := 1) hx hb dX1_coils_38 (by omega) ?_
            refine gz_top (j := i * 13 + (cn - 1)) (by omega) ?_
            refine gz_zald (k := i * 13 + (cn - 1)) hx hb hK hP 7 1 rfl rfl (by omega) (by omega) dX1_coils_39 ?_
            refine lv_istore (lv' := [(4, .int (fp (i * 13 + (cn - 1)))), (3, .int (nI (i * 12 + (cn - 1)))), (2, .int (nI i)), (1, .int (q.2)), (0, .ref gm)]) hx hb dX1_coils_40 hl (by decide) rfl (fun ls hl => ?_)
            refine lv_aload_n hx hb dX1_coils_42 rfl (lv_at hl 4 rfl) ?_
            refine va_get (D := (dC, dI)) (ci := 1) (v := .ref ac) (C := RX1) (T := TX1) (N := 10) hx hb hts hin1 hown hK hP 0 rfl rfl 3 (by decide) lk13 (fun _ h9 => h9) rfl dX1_coils_43 ?_
            refine lv_iload_n hx hb dX1_coils_46 rfl (lv_at hl 1 rfl) ?_
            refine gz_iald (k := i * 12 + (cn - 1)) hx hb hK hP 2 0 rfl rfl (by omega) (by omega) dX1_coils_47 ?_
            refine lv_istore (lv' := [(5, .int (fc (i * 12 + (cn - 1)))), (4, .int (fp (i * 13 + (cn - 1)))), (3, .int (nI (i * 12 + (cn - 1)))), (2, .int (nI i)), (1, .int (q.2)), (0, .ref gm)]) hx hb dX1_coils_48 hl (by decide) rfl (fun ls hl => ?_)
            refine lv_aload_n hx hb dX1_coils_50 rfl (lv_at hl 5 rfl) ?_
            refine va_get (D := (dC, dI)) (ci := 1) (v := .ref ak) (C := RX1) (T := TX1) (N := 10) hx hb hts hin1 hown hK hP 0 rfl rfl 2 (by decide) lk7 (fun _ h9 => h9) rfl dX1_coils_51 ?_
            refine lv_iload_n hx hb dX1_coils_54 rfl (lv_at hl 2 rfl) ?_
            refine gz_iald (k := i * 12 + (cn - 1)) hx hb hK hP 1 0 rfl rfl (by omega) (by omega) dX1_coils_55 ?_
            refine lv_bipush (v := nI 6) hx hb dX1_coils_56 (by decide) ?_
            refine gz_icmp_lt (tgt := 155) (za := (fk (i * 12 + (cn - 1))).toInt) (zb := ((6 : Nat) : Int)) hx hb dX1_coils_58 (by decide) rfl (nI_toInt (by omega)) (fun c_2 => False.elim (by omega)) (fun c_2 => ?_)
            refine lv_iload hx hb dX1_coils_61 (lv_at hl 1 rfl) ?_
            refine lv_if_eq (tgt := 72) hx hb dX1_coils_63 (by decide) (fun c_3 => ?_) (fun c_3 => False.elim (c_3 hp))
            refine lv_iload_n hx hb dX1_coils_72 rfl (lv_at hl 4 rfl) ?_
            refine lv_istore_n (lv' := [(1, .int (q.2)), (5, .int (fc (i * 12 + (cn - 1)))), (4, .int (fp (i * 13 + (cn - 1)))), (3, .int (nI (i * 12 + (cn - 1)))), (2, .int (nI i)), (0, .ref gm)]) hx hb dX1_coils_73 rfl hl (by decide) rfl (fun ls hl => ?_)
            refine lv_aload_n hx hb dX1_coils_74 rfl (lv_at hl 5 rfl) ?_
            refine va_get (D := (dC, dI)) (ci := 1) (v := .ref ak) (C := RX1) (T := TX1) (N := 10) hx hb hts hin1 hown hK hP 0 rfl rfl 2 (by decide) lk7 (fun _ h9 => h9) rfl dX1_coils_75 ?_
            refine lv_iload_n hx hb dX1_coils_78 rfl (lv_at hl 3 rfl) ?_
            refine gz_iald (k := i * 12 + (cn - 1)) hx hb hK hP 1 0 rfl rfl (by omega) (by omega) dX1_coils_79 ?_
            refine lv_bipush (v := nI 6) hx hb dX1_coils_80 (by decide) ?_
            refine lv_isub hx hb dX1_coils_82 ?_
            refine gz_topI (y := nI 1) (by rw [ek]; decide) ?_
            refine lv_istore (lv' := [(6, .int (nI 1)), (1, .int (q.2)), (5, .int (fc (i * 12 + (cn - 1)))), (4, .int (fp (i * 13 + (cn - 1)))), (3, .int (nI (i * 12 + (cn - 1)))), (2, .int (nI i)), (0, .ref gm)]) hx hb dX1_coils_83 hl (by decide) rfl (fun ls hl => ?_)
            refine lv_aload_n hx hb dX1_coils_85 rfl (lv_at hl 6 rfl) ?_
            refine va_get (D := (dC, dI)) (ci := 1) (v := .ref av) (C := RX1) (T := TX1) (N := 10) hx hb hts hin1 hown hK hP 0 rfl rfl 6 (by decide) lk23 (fun _ h9 => h9) rfl dX1_coils_86 ?_
            refine lv_iload hx hb dX1_coils_89 (lv_at hl 2 rfl) ?_
            refine lv_iload hx hb dX1_coils_91 (lv_at hl 0 rfl) ?_
            refine lv_if_ne (tgt := 109) hx hb dX1_coils_93 (by decide) (fun c_4 => ?_) (fun c_4 => False.elim (absurd c_4 (by decide)))
            refine lv_iload hx hb dX1_coils_109 (lv_at hl 0 rfl) ?_
            refine lv_iconst (v := nI 1) hx hb dX1_coils_111 (by decide) ?_
            refine gz_icmp_ne (tgt := 128) (za := ((1 : Nat) : Int)) (zb := ((1 : Nat) : Int)) hx hb dX1_coils_112 (by decide) (nI_toInt (by omega)) (nI_toInt (by omega)) (fun c_5 => False.elim (c_5 rfl)) (fun c_5 => ?_)
            refine lv_iload hx hb dX1_coils_115 (lv_at hl 3 rfl) ?_
            refine lv_if_eq (tgt := 124) hx hb dX1_coils_117 (by decide) (fun c_6 => ?_) (fun c_6 => False.elim (c_6 hp))
            refine lv_iconst (v := nI 1) hx hb dX1_coils_124 (by decide) ?_
            refine lv_goto (tgt := 154) hx hb dX1_coils_125 (by decide) ?_
            refine va_iast hx hb hK hP hD hS 5 0 rfl rfl hci dX1_coils_154 (fun H locs hP hD hS => ?_)
            have hP : va_P (dC, dI) vwCl (mw cA cZ gm ak ac ab al av ah ap fk fc fs fl fp (upd q.1 (fc (i * 12 + (cn - 1))).toNatClampNeg (nI 1)) ft (nI rn) (nI cn) sc) H := hP
            have hD : va_D A (mw cA cZ gm ak ac ab al av ah ap fk fc fs fl fp (upd q.1 (fc (i * 12 + (cn - 1))).toNatClampNeg (nI 1)) ft (nI rn) (nI cn) sc) := hD
            refine lv_iinc (v := nI (i + 1)) (lv' := [(2, .int (nI (i + 1))), (6, .int (nI 1)), (1, .int (q.2)), (5, .int (fc (i * 12 + (cn - 1)))), (4, .int (fp (i * 13 + (cn - 1)))), (3, .int (nI (i * 12 + (cn - 1)))), (0, .ref gm)]) hx hb dX1_coils_155 hl (k := 5) rfl (nI_1 _) (by decide) rfl (fun ls hl => ?_)
            refine lv_goto (tgt := 4) hx hb dX1_coils_158 (by decide) ?_
            exact ih (i + 1) (upd q.1 (fc (i * 12 + (cn - 1))).toNatClampNeg (nI 1), q.2) (by omega) (by show _ = gCo1 _ _ _ _ _ (gCo fk fc fp cn (fv, nI 0) i); rw [← hq]; unfold gCo1; rw [if_pos hco, ek, hp, gCoil_70, gz_add0]) H locs hP hD hS ls (lv_sub hl [0, 2, 6] rfl)
          · skip
            refine lv_iload_n hx hb dX1_coils_4 rfl (lv_at hl 0 rfl) ?_
            refine lv_aload_n hx hb dX1_coils_5 rfl (lv_at hl 2 rfl) ?_
            refine va_get (D := (dC, dI)) (ci := 1) (v := .int (nI rn)) (C := RX1) (T := TX1) (N := 10) hx hb hts hin1 hown hK hP 0 rfl rfl 0 (by decide) lk36 (fun _ h9 => h9) rfl dX1_coils_6 ?_
            refine gz_icmp_ge (tgt := 161) (za := ((i : Nat) : Int)) (zb := ((rn : Nat) : Int)) hx hb dX1_coils_9 (by decide) (nI_toInt (by omega)) (nI_toInt (by omega)) (fun c_1 => False.elim (by omega)) (fun c_1 => ?_)
            refine lv_bipush (v := nI 12) hx hb dX1_coils_12 (by decide) ?_
            refine lv_iload_n hx hb dX1_coils_14 rfl (lv_at hl 0 rfl) ?_
            refine gz_imulc (i := 12) (j := i) hx hb dX1_coils_15 ?_
            refine lv_aload_n hx hb dX1_coils_16 rfl (lv_at hl 2 rfl) ?_
            refine va_get (D := (dC, dI)) (ci := 1) (v := .int (nI cn)) (C := RX1) (T := TX1) (N := 10) hx hb hts hin1 hown hK hP 0 rfl rfl 1 (by decide) lk40 (fun _ h9 => h9) rfl dX1_coils_17 ?_
            refine gz_iadd (i := i * 12) (j := cn) hx hb dX1_coils_20 ?_
            refine lv_iconst (v := nI 1) hx hb dX1_coils_21 (by decide) ?_
            refine gz_isub (i := (i * 12) + cn) (j := 1) hx hb dX1_coils_22 (by omega) ?_
            refine gz_top (j := i * 12 + (cn - 1)) (by omega) ?_
            refine lv_istore_n (lv' := [(3, .int (nI (i * 12 + (cn - 1)))), (2, .int (nI i)), (1, .int (q.2)), (0, .ref gm)]) hx hb dX1_coils_23 rfl hl (by decide) rfl (fun ls hl => ?_)
            refine lv_aload_n hx hb dX1_coils_24 rfl (lv_at hl 3 rfl) ?_
            refine va_get (D := (dC, dI)) (ci := 1) (v := .ref ap) (C := RX1) (T := TX1) (N := 10) hx hb hts hin1 hown hK hP 0 rfl rfl 8 (by decide) lk29 (fun _ h9 => h9) rfl dX1_coils_25 ?_
            refine lv_bipush (v := nI 13) hx hb dX1_coils_28 (by decide) ?_
            refine lv_iload_n hx hb dX1_coils_30 rfl (lv_at hl 1 rfl) ?_
            refine gz_imulc (i := 13) (j := i) hx hb dX1_coils_31 ?_
            refine lv_aload_n hx hb dX1_coils_32 rfl (lv_at hl 3 rfl) ?_
            refine va_get (D := (dC, dI)) (ci := 1) (v := .int (nI cn)) (C := RX1) (T := TX1) (N := 10) hx hb hts hin1 hown hK hP 0 rfl rfl 1 (by decide) lk40 (fun _ h9 => h9) rfl dX1_coils_33 ?_
            refine gz_iadd (i := i * 13) (j := cn) hx hb dX1_coils_36 ?_
            refine lv_iconst (v := nI 1) hx hb dX1_coils_37 (by decide) ?_
            refine gz_isub (i := (i * 13) + cn) (j := 1) hx hb dX1_coils_38 (by omega) ?_
            refine gz_top (j := i * 13 + (cn - 1)) (by omega) ?_
            refine gz_zald (k := i * 13 + (cn - 1)) hx hb hK hP 7 1 rfl rfl (by omega) (by omega) dX1_coils_39 ?_
            refine lv_istore (lv' := [(4, .int (fp (i * 13 + (cn - 1)))), (3, .int (nI (i * 12 + (cn - 1)))), (2, .int (nI i)), (1, .int (q.2)), (0, .ref gm)]) hx hb dX1_coils_40 hl (by decide) rfl (fun ls hl => ?_)
            refine lv_aload_n hx hb dX1_coils_42 rfl (lv_at hl 4 rfl) ?_
            refine va_get (D := (dC, dI)) (ci := 1) (v := .ref ac) (C := RX1) (T := TX1) (N := 10) hx hb hts hin1 hown hK hP 0 rfl rfl 3 (by decide) lk13 (fun _ h9 => h9) rfl dX1_coils_43 ?_
            refine lv_iload_n hx hb dX1_coils_46 rfl (lv_at hl 1 rfl) ?_
            refine gz_iald (k := i * 12 + (cn - 1)) hx hb hK hP 2 0 rfl rfl (by omega) (by omega) dX1_coils_47 ?_
            refine lv_istore (lv' := [(5, .int (fc (i * 12 + (cn - 1)))), (4, .int (fp (i * 13 + (cn - 1)))), (3, .int (nI (i * 12 + (cn - 1)))), (2, .int (nI i)), (1, .int (q.2)), (0, .ref gm)]) hx hb dX1_coils_48 hl (by decide) rfl (fun ls hl => ?_)
            refine lv_aload_n hx hb dX1_coils_50 rfl (lv_at hl 5 rfl) ?_
            refine va_get (D := (dC, dI)) (ci := 1) (v := .ref ak) (C := RX1) (T := TX1) (N := 10) hx hb hts hin1 hown hK hP 0 rfl rfl 2 (by decide) lk7 (fun _ h9 => h9) rfl dX1_coils_51 ?_
            refine lv_iload_n hx hb dX1_coils_54 rfl (lv_at hl 2 rfl) ?_
            refine gz_iald (k := i * 12 + (cn - 1)) hx hb hK hP 1 0 rfl rfl (by omega) (by omega) dX1_coils_55 ?_
            refine lv_bipush (v := nI 6) hx hb dX1_coils_56 (by decide) ?_
            refine gz_icmp_lt (tgt := 155) (za := (fk (i * 12 + (cn - 1))).toInt) (zb := ((6 : Nat) : Int)) hx hb dX1_coils_58 (by decide) rfl (nI_toInt (by omega)) (fun c_2 => False.elim (by omega)) (fun c_2 => ?_)
            refine lv_iload hx hb dX1_coils_61 (lv_at hl 1 rfl) ?_
            refine lv_if_eq (tgt := 72) hx hb dX1_coils_63 (by decide) (fun c_3 => False.elim (absurd (hp.symm.trans c_3) (by decide))) (fun c_3 => ?_)
            refine lv_iload_n hx hb dX1_coils_66 rfl (lv_at hl 4 rfl) ?_
            refine lv_iconst (v := nI 1) hx hb dX1_coils_67 (by decide) ?_
            refine lv_iadd hx hb dX1_coils_68 ?_
            refine lv_goto (tgt := 73) hx hb dX1_coils_69 (by decide) ?_
            refine lv_istore_n (lv' := [(1, .int (q.2 + (nI 1))), (5, .int (fc (i * 12 + (cn - 1)))), (4, .int (fp (i * 13 + (cn - 1)))), (3, .int (nI (i * 12 + (cn - 1)))), (2, .int (nI i)), (0, .ref gm)]) hx hb dX1_coils_73 rfl hl (by decide) rfl (fun ls hl => ?_)
            refine lv_aload_n hx hb dX1_coils_74 rfl (lv_at hl 5 rfl) ?_
            refine va_get (D := (dC, dI)) (ci := 1) (v := .ref ak) (C := RX1) (T := TX1) (N := 10) hx hb hts hin1 hown hK hP 0 rfl rfl 2 (by decide) lk7 (fun _ h9 => h9) rfl dX1_coils_75 ?_
            refine lv_iload_n hx hb dX1_coils_78 rfl (lv_at hl 3 rfl) ?_
            refine gz_iald (k := i * 12 + (cn - 1)) hx hb hK hP 1 0 rfl rfl (by omega) (by omega) dX1_coils_79 ?_
            refine lv_bipush (v := nI 6) hx hb dX1_coils_80 (by decide) ?_
            refine lv_isub hx hb dX1_coils_82 ?_
            refine gz_topI (y := nI 1) (by rw [ek]; decide) ?_
            refine lv_istore (lv' := [(6, .int (nI 1)), (1, .int (q.2 + (nI 1))), (5, .int (fc (i * 12 + (cn - 1)))), (4, .int (fp (i * 13 + (cn - 1)))), (3, .int (nI (i * 12 + (cn - 1)))), (2, .int (nI i)), (0, .ref gm)]) hx hb dX1_coils_83 hl (by decide) rfl (fun ls hl => ?_)
            refine lv_aload_n hx hb dX1_coils_85 rfl (lv_at hl 6 rfl) ?_
            refine va_get (D := (dC, dI)) (ci := 1) (v := .ref av) (C := RX1) (T := TX1) (N := 10) hx hb hts hin1 hown hK hP 0 rfl rfl 6 (by decide) lk23 (fun _ h9 => h9) rfl dX1_coils_86 ?_
            refine lv_iload hx hb dX1_coils_89 (lv_at hl 2 rfl) ?_
            refine lv_iload hx hb dX1_coils_91 (lv_at hl 0 rfl) ?_
            refine lv_if_ne (tgt := 109) hx hb dX1_coils_93 (by decide) (fun c_4 => ?_) (fun c_4 => False.elim (absurd c_4 (by decide)))
            refine lv_iload hx hb dX1_coils_109 (lv_at hl 0 rfl) ?_
            refine lv_iconst (v := nI 1) hx hb dX1_coils_111 (by decide) ?_
            refine gz_icmp_ne (tgt := 128) (za := ((1 : Nat) : Int)) (zb := ((1 : Nat) : Int)) hx hb dX1_coils_112 (by decide) (nI_toInt (by omega)) (nI_toInt (by omega)) (fun c_5 => False.elim (c_5 rfl)) (fun c_5 => ?_)
            refine lv_iload hx hb dX1_coils_115 (lv_at hl 3 rfl) ?_
            refine lv_if_eq (tgt := 124) hx hb dX1_coils_117 (by decide) (fun c_6 => False.elim (absurd (hp.symm.trans c_6) (by decide))) (fun c_6 => ?_)
            refine lv_iconst (v := nI 0) hx hb dX1_coils_120 (by decide) ?_
            refine lv_goto (tgt := 154) hx hb dX1_coils_121 (by decide) ?_
            refine va_iast hx hb hK hP hD hS 5 0 rfl rfl hci dX1_coils_154 (fun H locs hP hD hS => ?_)
            have hP : va_P (dC, dI) vwCl (mw cA cZ gm ak ac ab al av ah ap fk fc fs fl fp (upd q.1 (fc (i * 12 + (cn - 1))).toNatClampNeg (nI 0)) ft (nI rn) (nI cn) sc) H := hP
            have hD : va_D A (mw cA cZ gm ak ac ab al av ah ap fk fc fs fl fp (upd q.1 (fc (i * 12 + (cn - 1))).toNatClampNeg (nI 0)) ft (nI rn) (nI cn) sc) := hD
            refine lv_iinc (v := nI (i + 1)) (lv' := [(2, .int (nI (i + 1))), (6, .int (nI 1)), (1, .int (q.2 + (nI 1))), (5, .int (fc (i * 12 + (cn - 1)))), (4, .int (fp (i * 13 + (cn - 1)))), (3, .int (nI (i * 12 + (cn - 1)))), (0, .ref gm)]) hx hb dX1_coils_155 hl (k := 5) rfl (nI_1 _) (by decide) rfl (fun ls hl => ?_)
            refine lv_goto (tgt := 4) hx hb dX1_coils_158 (by decide) ?_
            exact ih (i + 1) (upd q.1 (fc (i * 12 + (cn - 1))).toNatClampNeg (nI 0), q.2 + (nI 1)) (by omega) (by show _ = gCo1 _ _ _ _ _ (gCo fk fc fp cn (fv, nI 0) i); rw [← hq]; unfold gCo1; rw [if_pos hco, ek, hp, gCoil_71]) H locs hP hD hS ls (lv_sub hl [0, 2, 6] rfl)
        · subst hkv
          rcases hfp (i * 13 + (cn - 1)) (by omega) with hp | hp
          · skip
            refine lv_iload_n hx hb dX1_coils_4 rfl (lv_at hl 0 rfl) ?_
            refine lv_aload_n hx hb dX1_coils_5 rfl (lv_at hl 2 rfl) ?_
            refine va_get (D := (dC, dI)) (ci := 1) (v := .int (nI rn)) (C := RX1) (T := TX1) (N := 10) hx hb hts hin1 hown hK hP 0 rfl rfl 0 (by decide) lk36 (fun _ h9 => h9) rfl dX1_coils_6 ?_
            refine gz_icmp_ge (tgt := 161) (za := ((i : Nat) : Int)) (zb := ((rn : Nat) : Int)) hx hb dX1_coils_9 (by decide) (nI_toInt (by omega)) (nI_toInt (by omega)) (fun c_1 => False.elim (by omega)) (fun c_1 => ?_)
            refine lv_bipush (v := nI 12) hx hb dX1_coils_12 (by decide) ?_
            refine lv_iload_n hx hb dX1_coils_14 rfl (lv_at hl 0 rfl) ?_
            refine gz_imulc (i := 12) (j := i) hx hb dX1_coils_15 ?_
            refine lv_aload_n hx hb dX1_coils_16 rfl (lv_at hl 2 rfl) ?_
            refine va_get (D := (dC, dI)) (ci := 1) (v := .int (nI cn)) (C := RX1) (T := TX1) (N := 10) hx hb hts hin1 hown hK hP 0 rfl rfl 1 (by decide) lk40 (fun _ h9 => h9) rfl dX1_coils_17 ?_
            refine gz_iadd (i := i * 12) (j := cn) hx hb dX1_coils_20 ?_
            refine lv_iconst (v := nI 1) hx hb dX1_coils_21 (by decide) ?_
            refine gz_isub (i := (i * 12) + cn) (j := 1) hx hb dX1_coils_22 (by omega) ?_
            refine gz_top (j := i * 12 + (cn - 1)) (by omega) ?_
            refine lv_istore_n (lv' := [(3, .int (nI (i * 12 + (cn - 1)))), (2, .int (nI i)), (1, .int (q.2)), (0, .ref gm)]) hx hb dX1_coils_23 rfl hl (by decide) rfl (fun ls hl => ?_)
            refine lv_aload_n hx hb dX1_coils_24 rfl (lv_at hl 3 rfl) ?_
            refine va_get (D := (dC, dI)) (ci := 1) (v := .ref ap) (C := RX1) (T := TX1) (N := 10) hx hb hts hin1 hown hK hP 0 rfl rfl 8 (by decide) lk29 (fun _ h9 => h9) rfl dX1_coils_25 ?_
            refine lv_bipush (v := nI 13) hx hb dX1_coils_28 (by decide) ?_
            refine lv_iload_n hx hb dX1_coils_30 rfl (lv_at hl 1 rfl) ?_
            refine gz_imulc (i := 13) (j := i) hx hb dX1_coils_31 ?_
            refine lv_aload_n hx hb dX1_coils_32 rfl (lv_at hl 3 rfl) ?_
            refine va_get (D := (dC, dI)) (ci := 1) (v := .int (nI cn)) (C := RX1) (T := TX1) (N := 10) hx hb hts hin1 hown hK hP 0 rfl rfl 1 (by decide) lk40 (fun _ h9 => h9) rfl dX1_coils_33 ?_
            refine gz_iadd (i := i * 13) (j := cn) hx hb dX1_coils_36 ?_
            refine lv_iconst (v := nI 1) hx hb dX1_coils_37 (by decide) ?_
            refine gz_isub (i := (i * 13) + cn) (j := 1) hx hb dX1_coils_38 (by omega) ?_
            refine gz_top (j := i * 13 + (cn - 1)) (by omega) ?_
            refine gz_zald (k := i * 13 + (cn - 1)) hx hb hK hP 7 1 rfl rfl (by omega) (by omega) dX1_coils_39 ?_
            refine lv_istore (lv' := [(4, .int (fp (i * 13 + (cn - 1)))), (3, .int (nI (i * 12 + (cn - 1)))), (2, .int (nI i)), (1, .int (q.2)), (0, .ref gm)]) hx hb dX1_coils_40 hl (by decide) rfl (fun ls hl => ?_)
            refine lv_aload_n hx hb dX1_coils_42 rfl (lv_at hl 4 rfl) ?_
            refine va_get (D := (dC, dI)) (ci := 1) (v := .ref ac) (C := RX1) (T := TX1) (N := 10) hx hb hts hin1 hown hK hP 0 rfl rfl 3 (by decide) lk13 (fun _ h9 => h9) rfl dX1_coils_43 ?_
            refine lv_iload_n hx hb dX1_coils_46 rfl (lv_at hl 1 rfl) ?_
            refine gz_iald (k := i * 12 + (cn - 1)) hx hb hK hP 2 0 rfl rfl (by omega) (by omega) dX1_coils_47 ?_
            refine lv_istore (lv' := [(5, .int (fc (i * 12 + (cn - 1)))), (4, .int (fp (i * 13 + (cn - 1)))), (3, .int (nI (i * 12 + (cn - 1)))), (2, .int (nI i)), (1, .int (q.2)), (0, .ref gm)]) hx hb dX1_coils_48 hl (by decide) rfl (fun ls hl => ?_)
            refine lv_aload_n hx hb dX1_coils_50 rfl (lv_at hl 5 rfl) ?_
            refine va_get (D := (dC, dI)) (ci := 1) (v := .ref ak) (C := RX1) (T := TX1) (N := 10) hx hb hts hin1 hown hK hP 0 rfl rfl 2 (by decide) lk7 (fun _ h9 => h9) rfl dX1_coils_51 ?_
            refine lv_iload_n hx hb dX1_coils_54 rfl (lv_at hl 2 rfl) ?_
            refine gz_iald (k := i * 12 + (cn - 1)) hx hb hK hP 1 0 rfl rfl (by omega) (by omega) dX1_coils_55 ?_
            refine lv_bipush (v := nI 6) hx hb dX1_coils_56 (by decide) ?_
            refine gz_icmp_lt (tgt := 155) (za := (fk (i * 12 + (cn - 1))).toInt) (zb := ((6 : Nat) : Int)) hx hb dX1_coils_58 (by decide) rfl (nI_toInt (by omega)) (fun c_2 => False.elim (by omega)) (fun c_2 => ?_)
            refine lv_iload hx hb dX1_coils_61 (lv_at hl 1 rfl) ?_
            refine lv_if_eq (tgt := 72) hx hb dX1_coils_63 (by decide) (fun c_3 => ?_) (fun c_3 => False.elim (c_3 hp))
            refine lv_iload_n hx hb dX1_coils_72 rfl (lv_at hl 4 rfl) ?_
            refine lv_istore_n (lv' := [(1, .int (q.2)), (5, .int (fc (i * 12 + (cn - 1)))), (4, .int (fp (i * 13 + (cn - 1)))), (3, .int (nI (i * 12 + (cn - 1)))), (2, .int (nI i)), (0, .ref gm)]) hx hb dX1_coils_73 rfl hl (by decide) rfl (fun ls hl => ?_)
            refine lv_aload_n hx hb dX1_coils_74 rfl (lv_at hl 5 rfl) ?_
            refine va_get (D := (dC, dI)) (ci := 1) (v := .ref ak) (C := RX1) (T := TX1) (N := 10) hx hb hts hin1 hown hK hP 0 rfl rfl 2 (by decide) lk7 (fun _ h9 => h9) rfl dX1_coils_75 ?_
            refine lv_iload_n hx hb dX1_coils_78 rfl (lv_at hl 3 rfl) ?_
            refine gz_iald (k := i * 12 + (cn - 1)) hx hb hK hP 1 0 rfl rfl (by omega) (by omega) dX1_coils_79 ?_
            refine lv_bipush (v := nI 6) hx hb dX1_coils_80 (by decide) ?_
            refine lv_isub hx hb dX1_coils_82 ?_
            refine gz_topI (y := nI 2) (by rw [ek]; decide) ?_
            refine lv_istore (lv' := [(6, .int (nI 2)), (1, .int (q.2)), (5, .int (fc (i * 12 + (cn - 1)))), (4, .int (fp (i * 13 + (cn - 1)))), (3, .int (nI (i * 12 + (cn - 1)))), (2, .int (nI i)), (0, .ref gm)]) hx hb dX1_coils_83 hl (by decide) rfl (fun ls hl => ?_)
            refine lv_aload_n hx hb dX1_coils_85 rfl (lv_at hl 6 rfl) ?_
            refine va_get (D := (dC, dI)) (ci := 1) (v := .ref av) (C := RX1) (T := TX1) (N := 10) hx hb hts hin1 hown hK hP 0 rfl rfl 6 (by decide) lk23 (fun _ h9 => h9) rfl dX1_coils_86 ?_
            refine lv_iload hx hb dX1_coils_89 (lv_at hl 2 rfl) ?_
            refine lv_iload hx hb dX1_coils_91 (lv_at hl 0 rfl) ?_
            refine lv_if_ne (tgt := 109) hx hb dX1_coils_93 (by decide) (fun c_4 => ?_) (fun c_4 => False.elim (absurd c_4 (by decide)))
            refine lv_iload hx hb dX1_coils_109 (lv_at hl 0 rfl) ?_
            refine lv_iconst (v := nI 1) hx hb dX1_coils_111 (by decide) ?_
            refine gz_icmp_ne (tgt := 128) (za := ((2 : Nat) : Int)) (zb := ((1 : Nat) : Int)) hx hb dX1_coils_112 (by decide) (nI_toInt (by omega)) (nI_toInt (by omega)) (fun c_5 => ?_) (fun c_5 => False.elim (absurd c_5 (by decide)))
            refine lv_iload hx hb dX1_coils_128 (lv_at hl 3 rfl) ?_
            refine lv_if_eq (tgt := 147) hx hb dX1_coils_130 (by decide) (fun c_6 => ?_) (fun c_6 => False.elim (c_6 hp))
            refine lv_aload_n hx hb dX1_coils_147 rfl (lv_at hl 6 rfl) ?_
            refine va_get (D := (dC, dI)) (ci := 1) (v := .ref av) (C := RX1) (T := TX1) (N := 10) hx hb hts hin1 hown hK hP 0 rfl rfl 6 (by decide) lk23 (fun _ h9 => h9) rfl dX1_coils_148 ?_
            refine lv_iload hx hb dX1_coils_151 (lv_at hl 2 rfl) ?_
            refine va_iald hx hb hK hP 5 0 rfl rfl hci dX1_coils_153 ?_
            refine va_iast hx hb hK hP hD hS 5 0 rfl rfl hci dX1_coils_154 (fun H locs hP hD hS => ?_)
            have hP : va_P (dC, dI) vwCl (mw cA cZ gm ak ac ab al av ah ap fk fc fs fl fp (upd q.1 (fc (i * 12 + (cn - 1))).toNatClampNeg (q.1 (fc (i * 12 + (cn - 1))).toNatClampNeg)) ft (nI rn) (nI cn) sc) H := hP
            have hD : va_D A (mw cA cZ gm ak ac ab al av ah ap fk fc fs fl fp (upd q.1 (fc (i * 12 + (cn - 1))).toNatClampNeg (q.1 (fc (i * 12 + (cn - 1))).toNatClampNeg)) ft (nI rn) (nI cn) sc) := hD
            refine lv_iinc (v := nI (i + 1)) (lv' := [(2, .int (nI (i + 1))), (6, .int (nI 2)), (1, .int (q.2)), (5, .int (fc (i * 12 + (cn - 1)))), (4, .int (fp (i * 13 + (cn - 1)))), (3, .int (nI (i * 12 + (cn - 1)))), (0, .ref gm)]) hx hb dX1_coils_155 hl (k := 5) rfl (nI_1 _) (by decide) rfl (fun ls hl => ?_)
            refine lv_goto (tgt := 4) hx hb dX1_coils_158 (by decide) ?_
            exact ih (i + 1) (upd q.1 (fc (i * 12 + (cn - 1))).toNatClampNeg (q.1 (fc (i * 12 + (cn - 1))).toNatClampNeg), q.2) (by omega) (by show _ = gCo1 _ _ _ _ _ (gCo fk fc fp cn (fv, nI 0) i); rw [← hq]; unfold gCo1; rw [if_pos hco, ek, hp, gCoil_80, gz_add0]) H locs hP hD hS ls (lv_sub hl [0, 2, 6] rfl)
          · skip
            refine lv_iload_n hx hb dX1_coils_4 rfl (lv_at hl 0 rfl) ?_
            refine lv_aload_n hx hb dX1_coils_5 rfl (lv_at hl 2 rfl) ?_
            refine va_get (D := (dC, dI)) (ci := 1) (v := .int (nI rn)) (C := RX1) (T := TX1) (N := 10) hx hb hts hin1 hown hK hP 0 rfl rfl 0 (by decide) lk36 (fun _ h9 => h9) rfl dX1_coils_6 ?_
            refine gz_icmp_ge (tgt := 161) (za := ((i : Nat) : Int)) (zb := ((rn : Nat) : Int)) hx hb dX1_coils_9 (by decide) (nI_toInt (by omega)) (nI_toInt (by omega)) (fun c_1 => False.elim (by omega)) (fun c_1 => ?_)
            refine lv_bipush (v := nI 12) hx hb dX1_coils_12 (by decide) ?_
            refine lv_iload_n hx hb dX1_coils_14 rfl (lv_at hl 0 rfl) ?_
            refine gz_imulc (i := 12) (j := i) hx hb dX1_coils_15 ?_
            refine lv_aload_n hx hb dX1_coils_16 rfl (lv_at hl 2 rfl) ?_
            refine va_get (D := (dC, dI)) (ci := 1) (v := .int (nI cn)) (C := RX1) (T := TX1) (N := 10) hx hb hts hin1 hown hK hP 0 rfl rfl 1 (by decide) lk40 (fun _ h9 => h9) rfl dX1_coils_17 ?_
            refine gz_iadd (i := i * 12) (j := cn) hx hb dX1_coils_20 ?_
            refine lv_iconst (v := nI 1) hx hb dX1_coils_21 (by decide) ?_
            refine gz_isub (i := (i * 12) + cn) (j := 1) hx hb dX1_coils_22 (by omega) ?_
            refine gz_top (j := i * 12 + (cn - 1)) (by omega) ?_
            refine lv_istore_n (lv' := [(3, .int (nI (i * 12 + (cn - 1)))), (2, .int (nI i)), (1, .int (q.2)), (0, .ref gm)]) hx hb dX1_coils_23 rfl hl (by decide) rfl (fun ls hl => ?_)
            refine lv_aload_n hx hb dX1_coils_24 rfl (lv_at hl 3 rfl) ?_
            refine va_get (D := (dC, dI)) (ci := 1) (v := .ref ap) (C := RX1) (T := TX1) (N := 10) hx hb hts hin1 hown hK hP 0 rfl rfl 8 (by decide) lk29 (fun _ h9 => h9) rfl dX1_coils_25 ?_
            refine lv_bipush (v := nI 13) hx hb dX1_coils_28 (by decide) ?_
            refine lv_iload_n hx hb dX1_coils_30 rfl (lv_at hl 1 rfl) ?_
            refine gz_imulc (i := 13) (j := i) hx hb dX1_coils_31 ?_
            refine lv_aload_n hx hb dX1_coils_32 rfl (lv_at hl 3 rfl) ?_
            refine va_get (D := (dC, dI)) (ci := 1) (v := .int (nI cn)) (C := RX1) (T := TX1) (N := 10) hx hb hts hin1 hown hK hP 0 rfl rfl 1 (by decide) lk40 (fun _ h9 => h9) rfl dX1_coils_33 ?_
            refine gz_iadd (i := i * 13) (j := cn) hx hb dX1_coils_36 ?_
            refine lv_iconst (v := nI 1) hx hb dX1_coils_37 (by decide) ?_
            refine gz_isub (i := (i * 13) + cn) (j := 1) hx hb dX1_coils_38 (by omega) ?_
            refine gz_top (j := i * 13 + (cn - 1)) (by omega) ?_
            refine gz_zald (k := i * 13 + (cn - 1)) hx hb hK hP 7 1 rfl rfl (by omega) (by omega) dX1_coils_39 ?_
            refine lv_istore (lv' := [(4, .int (fp (i * 13 + (cn - 1)))), (3, .int (nI (i * 12 + (cn - 1)))), (2, .int (nI i)), (1, .int (q.2)), (0, .ref gm)]) hx hb dX1_coils_40 hl (by decide) rfl (fun ls hl => ?_)
            refine lv_aload_n hx hb dX1_coils_42 rfl (lv_at hl 4 rfl) ?_
            refine va_get (D := (dC, dI)) (ci := 1) (v := .ref ac) (C := RX1) (T := TX1) (N := 10) hx hb hts hin1 hown hK hP 0 rfl rfl 3 (by decide) lk13 (fun _ h9 => h9) rfl dX1_coils_43 ?_
            refine lv_iload_n hx hb dX1_coils_46 rfl (lv_at hl 1 rfl) ?_
            refine gz_iald (k := i * 12 + (cn - 1)) hx hb hK hP 2 0 rfl rfl (by omega) (by omega) dX1_coils_47 ?_
            refine lv_istore (lv' := [(5, .int (fc (i * 12 + (cn - 1)))), (4, .int (fp (i * 13 + (cn - 1)))), (3, .int (nI (i * 12 + (cn - 1)))), (2, .int (nI i)), (1, .int (q.2)), (0, .ref gm)]) hx hb dX1_coils_48 hl (by decide) rfl (fun ls hl => ?_)
            refine lv_aload_n hx hb dX1_coils_50 rfl (lv_at hl 5 rfl) ?_
            refine va_get (D := (dC, dI)) (ci := 1) (v := .ref ak) (C := RX1) (T := TX1) (N := 10) hx hb hts hin1 hown hK hP 0 rfl rfl 2 (by decide) lk7 (fun _ h9 => h9) rfl dX1_coils_51 ?_
            refine lv_iload_n hx hb dX1_coils_54 rfl (lv_at hl 2 rfl) ?_
            refine gz_iald (k := i * 12 + (cn - 1)) hx hb hK hP 1 0 rfl rfl (by omega) (by omega) dX1_coils_55 ?_
            refine lv_bipush (v := nI 6) hx hb dX1_coils_56 (by decide) ?_
            refine gz_icmp_lt (tgt := 155) (za := (fk (i * 12 + (cn - 1))).toInt) (zb := ((6 : Nat) : Int)) hx hb dX1_coils_58 (by decide) rfl (nI_toInt (by omega)) (fun c_2 => False.elim (by omega)) (fun c_2 => ?_)
            refine lv_iload hx hb dX1_coils_61 (lv_at hl 1 rfl) ?_
            refine lv_if_eq (tgt := 72) hx hb dX1_coils_63 (by decide) (fun c_3 => False.elim (absurd (hp.symm.trans c_3) (by decide))) (fun c_3 => ?_)
            refine lv_iload_n hx hb dX1_coils_66 rfl (lv_at hl 4 rfl) ?_
            refine lv_iconst (v := nI 1) hx hb dX1_coils_67 (by decide) ?_
            refine lv_iadd hx hb dX1_coils_68 ?_
            refine lv_goto (tgt := 73) hx hb dX1_coils_69 (by decide) ?_
            refine lv_istore_n (lv' := [(1, .int (q.2 + (nI 1))), (5, .int (fc (i * 12 + (cn - 1)))), (4, .int (fp (i * 13 + (cn - 1)))), (3, .int (nI (i * 12 + (cn - 1)))), (2, .int (nI i)), (0, .ref gm)]) hx hb dX1_coils_73 rfl hl (by decide) rfl (fun ls hl => ?_)
            refine lv_aload_n hx hb dX1_coils_74 rfl (lv_at hl 5 rfl) ?_
            refine va_get (D := (dC, dI)) (ci := 1) (v := .ref ak) (C := RX1) (T := TX1) (N := 10) hx hb hts hin1 hown hK hP 0 rfl rfl 2 (by decide) lk7 (fun _ h9 => h9) rfl dX1_coils_75 ?_
            refine lv_iload_n hx hb dX1_coils_78 rfl (lv_at hl 3 rfl) ?_
            refine gz_iald (k := i * 12 + (cn - 1)) hx hb hK hP 1 0 rfl rfl (by omega) (by omega) dX1_coils_79 ?_
            refine lv_bipush (v := nI 6) hx hb dX1_coils_80 (by decide) ?_
            refine lv_isub hx hb dX1_coils_82 ?_
            refine gz_topI (y := nI 2) (by rw [ek]; decide) ?_
            refine lv_istore (lv' := [(6, .int (nI 2)), (1, .int (q.2 + (nI 1))), (5, .int (fc (i * 12 + (cn - 1)))), (4, .int (fp (i * 13 + (cn - 1)))), (3, .int (nI (i * 12 + (cn - 1)))), (2, .int (nI i)), (0, .ref gm)]) hx hb dX1_coils_83 hl (by decide) rfl (fun ls hl => ?_)
            refine lv_aload_n hx hb dX1_coils_85 rfl (lv_at hl 6 rfl) ?_
            refine va_get (D := (dC, dI)) (ci := 1) (v := .ref av) (C := RX1) (T := TX1) (N := 10) hx hb hts hin1 hown hK hP 0 rfl rfl 6 (by decide) lk23 (fun _ h9 => h9) rfl dX1_coils_86 ?_
            refine lv_iload hx hb dX1_coils_89 (lv_at hl 2 rfl) ?_
            refine lv_iload hx hb dX1_coils_91 (lv_at hl 0 rfl) ?_
            refine lv_if_ne (tgt := 109) hx hb dX1_coils_93 (by decide) (fun c_4 => ?_) (fun c_4 => False.elim (absurd c_4 (by decide)))
            refine lv_iload hx hb dX1_coils_109 (lv_at hl 0 rfl) ?_
            refine lv_iconst (v := nI 1) hx hb dX1_coils_111 (by decide) ?_
            refine gz_icmp_ne (tgt := 128) (za := ((2 : Nat) : Int)) (zb := ((1 : Nat) : Int)) hx hb dX1_coils_112 (by decide) (nI_toInt (by omega)) (nI_toInt (by omega)) (fun c_5 => ?_) (fun c_5 => False.elim (absurd c_5 (by decide)))
            refine lv_iload hx hb dX1_coils_128 (lv_at hl 3 rfl) ?_
            refine lv_if_eq (tgt := 147) hx hb dX1_coils_130 (by decide) (fun c_6 => False.elim (absurd (hp.symm.trans c_6) (by decide))) (fun c_6 => ?_)
            refine lv_iload hx hb dX1_coils_133 (lv_at hl 0 rfl) ?_
            refine lv_iconst (v := nI 2) hx hb dX1_coils_135 (by decide) ?_
            refine gz_icmp_ne (tgt := 143) (za := ((2 : Nat) : Int)) (zb := ((2 : Nat) : Int)) hx hb dX1_coils_136 (by decide) (nI_toInt (by omega)) (nI_toInt (by omega)) (fun c_7 => False.elim (c_7 rfl)) (fun c_7 => ?_)
            refine lv_iconst (v := nI 1) hx hb dX1_coils_139 (by decide) ?_
            refine lv_goto (tgt := 154) hx hb dX1_coils_140 (by decide) ?_
            refine va_iast hx hb hK hP hD hS 5 0 rfl rfl hci dX1_coils_154 (fun H locs hP hD hS => ?_)
            have hP : va_P (dC, dI) vwCl (mw cA cZ gm ak ac ab al av ah ap fk fc fs fl fp (upd q.1 (fc (i * 12 + (cn - 1))).toNatClampNeg (nI 1)) ft (nI rn) (nI cn) sc) H := hP
            have hD : va_D A (mw cA cZ gm ak ac ab al av ah ap fk fc fs fl fp (upd q.1 (fc (i * 12 + (cn - 1))).toNatClampNeg (nI 1)) ft (nI rn) (nI cn) sc) := hD
            refine lv_iinc (v := nI (i + 1)) (lv' := [(2, .int (nI (i + 1))), (6, .int (nI 2)), (1, .int (q.2 + (nI 1))), (5, .int (fc (i * 12 + (cn - 1)))), (4, .int (fp (i * 13 + (cn - 1)))), (3, .int (nI (i * 12 + (cn - 1)))), (0, .ref gm)]) hx hb dX1_coils_155 hl (k := 5) rfl (nI_1 _) (by decide) rfl (fun ls hl => ?_)
            refine lv_goto (tgt := 4) hx hb dX1_coils_158 (by decide) ?_
            exact ih (i + 1) (upd q.1 (fc (i * 12 + (cn - 1))).toNatClampNeg (nI 1), q.2 + (nI 1)) (by omega) (by show _ = gCo1 _ _ _ _ _ (gCo fk fc fp cn (fv, nI 0) i); rw [← hq]; unfold gCo1; rw [if_pos hco, ek, hp, gCoil_81]) H locs hP hD hS ls (lv_sub hl [0, 2, 6] rfl)
        · subst hkv
          rcases hfp (i * 13 + (cn - 1)) (by omega) with hp | hp
          · skip
            refine lv_iload_n hx hb dX1_coils_4 rfl (lv_at hl 0 rfl) ?_
            refine lv_aload_n hx hb dX1_coils_5 rfl (lv_at hl 2 rfl) ?_
            refine va_get (D := (dC, dI)) (ci := 1) (v := .int (nI rn)) (C := RX1) (T := TX1) (N := 10) hx hb hts hin1 hown hK hP 0 rfl rfl 0 (by decide) lk36 (fun _ h9 => h9) rfl dX1_coils_6 ?_
            refine gz_icmp_ge (tgt := 161) (za := ((i : Nat) : Int)) (zb := ((rn : Nat) : Int)) hx hb dX1_coils_9 (by decide) (nI_toInt (by omega)) (nI_toInt (by omega)) (fun c_1 => False.elim (by omega)) (fun c_1 => ?_)
            refine lv_bipush (v := nI 12) hx hb dX1_coils_12 (by decide) ?_
            refine lv_iload_n hx hb dX1_coils_14 rfl (lv_at hl 0 rfl) ?_
            refine gz_imulc (i := 12) (j := i) hx hb dX1_coils_15 ?_
            refine lv_aload_n hx hb dX1_coils_16 rfl (lv_at hl 2 rfl) ?_
            refine va_get (D := (dC, dI)) (ci := 1) (v := .int (nI cn)) (C := RX1) (T := TX1) (N := 10) hx hb hts hin1 hown hK hP 0 rfl rfl 1 (by decide) lk40 (fun _ h9 => h9) rfl dX1_coils_17 ?_
            refine gz_iadd (i := i * 12) (j := cn) hx hb dX1_coils_20 ?_
            refine lv_iconst (v := nI 1) hx hb dX1_coils_21 (by decide) ?_
            refine gz_isub (i := (i * 12) + cn) (j := 1) hx hb dX1_coils_22 (by omega) ?_
            refine gz_top (j := i * 12 + (cn - 1)) (by omega) ?_
            refine lv_istore_n (lv' := [(3, .int (nI (i * 12 + (cn - 1)))), (2, .int (nI i)), (1, .int (q.2)), (0, .ref gm)]) hx hb dX1_coils_23 rfl hl (by decide) rfl (fun ls hl => ?_)
            refine lv_aload_n hx hb dX1_coils_24 rfl (lv_at hl 3 rfl) ?_
            refine va_get (D := (dC, dI)) (ci := 1) (v := .ref ap) (C := RX1) (T := TX1) (N := 10) hx hb hts hin1 hown hK hP 0 rfl rfl 8 (by decide) lk29 (fun _ h9 => h9) rfl dX1_coils_25 ?_
            refine lv_bipush (v := nI 13) hx hb dX1_coils_28 (by decide) ?_
            refine lv_iload_n hx hb dX1_coils_30 rfl (lv_at hl 1 rfl) ?_
            refine gz_imulc (i := 13) (j := i) hx hb dX1_coils_31 ?_
            refine lv_aload_n hx hb dX1_coils_32 rfl (lv_at hl 3 rfl) ?_
            refine va_get (D := (dC, dI)) (ci := 1) (v := .int (nI cn)) (C := RX1) (T := TX1) (N := 10) hx hb hts hin1 hown hK hP 0 rfl rfl 1 (by decide) lk40 (fun _ h9 => h9) rfl dX1_coils_33 ?_
            refine gz_iadd (i := i * 13) (j := cn) hx hb dX1_coils_36 ?_
            refine lv_iconst (v := nI 1) hx hb dX1_coils_37 (by decide) ?_
            refine gz_isub (i := (i * 13) + cn) (j := 1) hx hb dX1_coils_38 (by omega) ?_
            refine gz_top (j := i * 13 + (cn - 1)) (by omega) ?_
            refine gz_zald (k := i * 13 + (cn - 1)) hx hb hK hP 7 1 rfl rfl (by omega) (by omega) dX1_coils_39 ?_
            refine lv_istore (lv' := [(4, .int (fp (i * 13 + (cn - 1)))), (3, .int (nI (i * 12 + (cn - 1)))), (2, .int (nI i)), (1, .int (q.2)), (0, .ref gm)]) hx hb dX1_coils_40 hl (by decide) rfl (fun ls hl => ?_)
            refine lv_aload_n hx hb dX1_coils_42 rfl (lv_at hl 4 rfl) ?_
            refine va_get (D := (dC, dI)) (ci := 1) (v := .ref ac) (C := RX1) (T := TX1) (N := 10) hx hb hts hin1 hown hK hP 0 rfl rfl 3 (by decide) lk13 (fun _ h9 => h9) rfl dX1_coils_43 ?_
            refine lv_iload_n hx hb dX1_coils_46 rfl (lv_at hl 1 rfl) ?_
            refine gz_iald (k := i * 12 + (cn - 1)) hx hb hK hP 2 0 rfl rfl (by omega) (by omega) dX1_coils_47 ?_
            refine lv_istore (lv' := [(5, .int (fc (i * 12 + (cn - 1)))), (4, .int (fp (i * 13 + (cn - 1)))), (3, .int (nI (i * 12 + (cn - 1)))), (2, .int (nI i)), (1, .int (q.2)), (0, .ref gm)]) hx hb dX1_coils_48 hl (by decide) rfl (fun ls hl => ?_)
            refine lv_aload_n hx hb dX1_coils_50 rfl (lv_at hl 5 rfl) ?_
            refine va_get (D := (dC, dI)) (ci := 1) (v := .ref ak) (C := RX1) (T := TX1) (N := 10) hx hb hts hin1 hown hK hP 0 rfl rfl 2 (by decide) lk7 (fun _ h9 => h9) rfl dX1_coils_51 ?_
            refine lv_iload_n hx hb dX1_coils_54 rfl (lv_at hl 2 rfl) ?_
            refine gz_iald (k := i * 12 + (cn - 1)) hx hb hK hP 1 0 rfl rfl (by omega) (by omega) dX1_coils_55 ?_
            refine lv_bipush (v := nI 6) hx hb dX1_coils_56 (by decide) ?_
            refine gz_icmp_lt (tgt := 155) (za := (fk (i * 12 + (cn - 1))).toInt) (zb := ((6 : Nat) : Int)) hx hb dX1_coils_58 (by decide) rfl (nI_toInt (by omega)) (fun c_2 => False.elim (by omega)) (fun c_2 => ?_)
            refine lv_iload hx hb dX1_coils_61 (lv_at hl 1 rfl) ?_
            refine lv_if_eq (tgt := 72) hx hb dX1_coils_63 (by decide) (fun c_3 => ?_) (fun c_3 => False.elim (c_3 hp))
            refine lv_iload_n hx hb dX1_coils_72 rfl (lv_at hl 4 rfl) ?_
            refine lv_istore_n (lv' := [(1, .int (q.2)), (5, .int (fc (i * 12 + (cn - 1)))), (4, .int (fp (i * 13 + (cn - 1)))), (3, .int (nI (i * 12 + (cn - 1)))), (2, .int (nI i)), (0, .ref gm)]) hx hb dX1_coils_73 rfl hl (by decide) rfl (fun ls hl => ?_)
            refine lv_aload_n hx hb dX1_coils_74 rfl (lv_at hl 5 rfl) ?_
            refine va_get (D := (dC, dI)) (ci := 1) (v := .ref ak) (C := RX1) (T := TX1) (N := 10) hx hb hts hin1 hown hK hP 0 rfl rfl 2 (by decide) lk7 (fun _ h9 => h9) rfl dX1_coils_75 ?_
            refine lv_iload_n hx hb dX1_coils_78 rfl (lv_at hl 3 rfl) ?_
            refine gz_iald (k := i * 12 + (cn - 1)) hx hb hK hP 1 0 rfl rfl (by omega) (by omega) dX1_coils_79 ?_
            refine lv_bipush (v := nI 6) hx hb dX1_coils_80 (by decide) ?_
            refine lv_isub hx hb dX1_coils_82 ?_
            refine gz_topI (y := nI 3) (by rw [ek]; decide) ?_
            refine lv_istore (lv' := [(6, .int (nI 3)), (1, .int (q.2)), (5, .int (fc (i * 12 + (cn - 1)))), (4, .int (fp (i * 13 + (cn - 1)))), (3, .int (nI (i * 12 + (cn - 1)))), (2, .int (nI i)), (0, .ref gm)]) hx hb dX1_coils_83 hl (by decide) rfl (fun ls hl => ?_)
            refine lv_aload_n hx hb dX1_coils_85 rfl (lv_at hl 6 rfl) ?_
            refine va_get (D := (dC, dI)) (ci := 1) (v := .ref av) (C := RX1) (T := TX1) (N := 10) hx hb hts hin1 hown hK hP 0 rfl rfl 6 (by decide) lk23 (fun _ h9 => h9) rfl dX1_coils_86 ?_
            refine lv_iload hx hb dX1_coils_89 (lv_at hl 2 rfl) ?_
            refine lv_iload hx hb dX1_coils_91 (lv_at hl 0 rfl) ?_
            refine lv_if_ne (tgt := 109) hx hb dX1_coils_93 (by decide) (fun c_4 => ?_) (fun c_4 => False.elim (absurd c_4 (by decide)))
            refine lv_iload hx hb dX1_coils_109 (lv_at hl 0 rfl) ?_
            refine lv_iconst (v := nI 1) hx hb dX1_coils_111 (by decide) ?_
            refine gz_icmp_ne (tgt := 128) (za := ((3 : Nat) : Int)) (zb := ((1 : Nat) : Int)) hx hb dX1_coils_112 (by decide) (nI_toInt (by omega)) (nI_toInt (by omega)) (fun c_5 => ?_) (fun c_5 => False.elim (absurd c_5 (by decide)))
            refine lv_iload hx hb dX1_coils_128 (lv_at hl 3 rfl) ?_
            refine lv_if_eq (tgt := 147) hx hb dX1_coils_130 (by decide) (fun c_6 => ?_) (fun c_6 => False.elim (c_6 hp))
            refine lv_aload_n hx hb dX1_coils_147 rfl (lv_at hl 6 rfl) ?_
            refine va_get (D := (dC, dI)) (ci := 1) (v := .ref av) (C := RX1) (T := TX1) (N := 10) hx hb hts hin1 hown hK hP 0 rfl rfl 6 (by decide) lk23 (fun _ h9 => h9) rfl dX1_coils_148 ?_
            refine lv_iload hx hb dX1_coils_151 (lv_at hl 2 rfl) ?_
            refine va_iald hx hb hK hP 5 0 rfl rfl hci dX1_coils_153 ?_
            refine va_iast hx hb hK hP hD hS 5 0 rfl rfl hci dX1_coils_154 (fun H locs hP hD hS => ?_)
            have hP : va_P (dC, dI) vwCl (mw cA cZ gm ak ac ab al av ah ap fk fc fs fl fp (upd q.1 (fc (i * 12 + (cn - 1))).toNatClampNeg (q.1 (fc (i * 12 + (cn - 1))).toNatClampNeg)) ft (nI rn) (nI cn) sc) H := hP
            have hD : va_D A (mw cA cZ gm ak ac ab al av ah ap fk fc fs fl fp (upd q.1 (fc (i * 12 + (cn - 1))).toNatClampNeg (q.1 (fc (i * 12 + (cn - 1))).toNatClampNeg)) ft (nI rn) (nI cn) sc) := hD
            refine lv_iinc (v := nI (i + 1)) (lv' := [(2, .int (nI (i + 1))), (6, .int (nI 3)), (1, .int (q.2)), (5, .int (fc (i * 12 + (cn - 1)))), (4, .int (fp (i * 13 + (cn - 1)))), (3, .int (nI (i * 12 + (cn - 1)))), (0, .ref gm)]) hx hb dX1_coils_155 hl (k := 5) rfl (nI_1 _) (by decide) rfl (fun ls hl => ?_)
            refine lv_goto (tgt := 4) hx hb dX1_coils_158 (by decide) ?_
            exact ih (i + 1) (upd q.1 (fc (i * 12 + (cn - 1))).toNatClampNeg (q.1 (fc (i * 12 + (cn - 1))).toNatClampNeg), q.2) (by omega) (by show _ = gCo1 _ _ _ _ _ (gCo fk fc fp cn (fv, nI 0) i); rw [← hq]; unfold gCo1; rw [if_pos hco, ek, hp, gCoil_90, gz_add0]) H locs hP hD hS ls (lv_sub hl [0, 2, 6] rfl)
          · skip
            refine lv_iload_n hx hb dX1_coils_4 rfl (lv_at hl 0 rfl) ?_
            refine lv_aload_n hx hb dX1_coils_5 rfl (lv_at hl 2 rfl) ?_
            refine va_get (D := (dC, dI)) (ci := 1) (v := .int (nI rn)) (C := RX1) (T := TX1) (N := 10) hx hb hts hin1 hown hK hP 0 rfl rfl 0 (by decide) lk36 (fun _ h9 => h9) rfl dX1_coils_6 ?_
            refine gz_icmp_ge (tgt := 161) (za := ((i : Nat) : Int)) (zb := ((rn : Nat) : Int)) hx hb dX1_coils_9 (by decide) (nI_toInt (by omega)) (nI_toInt (by omega)) (fun c_1 => False.elim (by omega)) (fun c_1 => ?_)
            refine lv_bipush (v := nI 12) hx hb dX1_coils_12 (by decide) ?_
            refine lv_iload_n hx hb dX1_coils_14 rfl (lv_at hl 0 rfl) ?_
            refine gz_imulc (i := 12) (j := i) hx hb dX1_coils_15 ?_
            refine lv_aload_n hx hb dX1_coils_16 rfl (lv_at hl 2 rfl) ?_
            refine va_get (D := (dC, dI)) (ci := 1) (v := .int (nI cn)) (C := RX1) (T := TX1) (N := 10) hx hb hts hin1 hown hK hP 0 rfl rfl 1 (by decide) lk40 (fun _ h9 => h9) rfl dX1_coils_17 ?_
            refine gz_iadd (i := i * 12) (j := cn) hx hb dX1_coils_20 ?_
            refine lv_iconst (v := nI 1) hx hb dX1_coils_21 (by decide) ?_
            refine gz_isub (i := (i * 12) + cn) (j := 1) hx hb dX1_coils_22 (by omega) ?_
            refine gz_top (j := i * 12 + (cn - 1)) (by omega) ?_
            refine lv_istore_n (lv' := [(3, .int (nI (i * 12 + (cn - 1)))), (2, .int (nI i)), (1, .int (q.2)), (0, .ref gm)]) hx hb dX1_coils_23 rfl hl (by decide) rfl (fun ls hl => ?_)
            refine lv_aload_n hx hb dX1_coils_24 rfl (lv_at hl 3 rfl) ?_
            refine va_get (D := (dC, dI)) (ci := 1) (v := .ref ap) (C := RX1) (T := TX1) (N := 10) hx hb hts hin1 hown hK hP 0 rfl rfl 8 (by decide) lk29 (fun _ h9 => h9) rfl dX1_coils_25 ?_
            refine lv_bipush (v := nI 13) hx hb dX1_coils_28 (by decide) ?_
            refine lv_iload_n hx hb dX1_coils_30 rfl (lv_at hl 1 rfl) ?_
            refine gz_imulc (i := 13) (j := i) hx hb dX1_coils_31 ?_
            refine lv_aload_n hx hb dX1_coils_32 rfl (lv_at hl 3 rfl) ?_
            refine va_get (D := (dC, dI)) (ci := 1) (v := .int (nI cn)) (C := RX1) (T := TX1) (N := 10) hx hb hts hin1 hown hK hP 0 rfl rfl 1 (by decide) lk40 (fun _ h9 => h9) rfl dX1_coils_33 ?_
            refine gz_iadd (i := i * 13) (j := cn) hx hb dX1_coils_36 ?_
            refine lv_iconst (v := nI 1) hx hb dX1_coils_37 (by decide) ?_
            refine gz_isub (i := (i * 13) + cn) (j := 1) hx hb dX1_coils_38 (by omega) ?_
            refine gz_top (j := i * 13 + (cn - 1)) (by omega) ?_
            refine gz_zald (k := i * 13 + (cn - 1)) hx hb hK hP 7 1 rfl rfl (by omega) (by omega) dX1_coils_39 ?_
            refine lv_istore (lv' := [(4, .int (fp (i * 13 + (cn - 1)))), (3, .int (nI (i * 12 + (cn - 1)))), (2, .int (nI i)), (1, .int (q.2)), (0, .ref gm)]) hx hb dX1_coils_40 hl (by decide) rfl (fun ls hl => ?_)
            refine lv_aload_n hx hb dX1_coils_42 rfl (lv_at hl 4 rfl) ?_
            refine va_get (D := (dC, dI)) (ci := 1) (v := .ref ac) (C := RX1) (T := TX1) (N := 10) hx hb hts hin1 hown hK hP 0 rfl rfl 3 (by decide) lk13 (fun _ h9 => h9) rfl dX1_coils_43 ?_
            refine lv_iload_n hx hb dX1_coils_46 rfl (lv_at hl 1 rfl) ?_
            refine gz_iald (k := i * 12 + (cn - 1)) hx hb hK hP 2 0 rfl rfl (by omega) (by omega) dX1_coils_47 ?_
            refine lv_istore (lv' := [(5, .int (fc (i * 12 + (cn - 1)))), (4, .int (fp (i * 13 + (cn - 1)))), (3, .int (nI (i * 12 + (cn - 1)))), (2, .int (nI i)), (1, .int (q.2)), (0, .ref gm)]) hx hb dX1_coils_48 hl (by decide) rfl (fun ls hl => ?_)
            refine lv_aload_n hx hb dX1_coils_50 rfl (lv_at hl 5 rfl) ?_
            refine va_get (D := (dC, dI)) (ci := 1) (v := .ref ak) (C := RX1) (T := TX1) (N := 10) hx hb hts hin1 hown hK hP 0 rfl rfl 2 (by decide) lk7 (fun _ h9 => h9) rfl dX1_coils_51 ?_
            refine lv_iload_n hx hb dX1_coils_54 rfl (lv_at hl 2 rfl) ?_
            refine gz_iald (k := i * 12 + (cn - 1)) hx hb hK hP 1 0 rfl rfl (by omega) (by omega) dX1_coils_55 ?_
            refine lv_bipush (v := nI 6) hx hb dX1_coils_56 (by decide) ?_
            refine gz_icmp_lt (tgt := 155) (za := (fk (i * 12 + (cn - 1))).toInt) (zb := ((6 : Nat) : Int)) hx hb dX1_coils_58 (by decide) rfl (nI_toInt (by omega)) (fun c_2 => False.elim (by omega)) (fun c_2 => ?_)
            refine lv_iload hx hb dX1_coils_61 (lv_at hl 1 rfl) ?_
            refine lv_if_eq (tgt := 72) hx hb dX1_coils_63 (by decide) (fun c_3 => False.elim (absurd (hp.symm.trans c_3) (by decide))) (fun c_3 => ?_)
            refine lv_iload_n hx hb dX1_coils_66 rfl (lv_at hl 4 rfl) ?_
            refine lv_iconst (v := nI 1) hx hb dX1_coils_67 (by decide) ?_
            refine lv_iadd hx hb dX1_coils_68 ?_
            refine lv_goto (tgt := 73) hx hb dX1_coils_69 (by decide) ?_
            refine lv_istore_n (lv' := [(1, .int (q.2 + (nI 1))), (5, .int (fc (i * 12 + (cn - 1)))), (4, .int (fp (i * 13 + (cn - 1)))), (3, .int (nI (i * 12 + (cn - 1)))), (2, .int (nI i)), (0, .ref gm)]) hx hb dX1_coils_73 rfl hl (by decide) rfl (fun ls hl => ?_)
            refine lv_aload_n hx hb dX1_coils_74 rfl (lv_at hl 5 rfl) ?_
            refine va_get (D := (dC, dI)) (ci := 1) (v := .ref ak) (C := RX1) (T := TX1) (N := 10) hx hb hts hin1 hown hK hP 0 rfl rfl 2 (by decide) lk7 (fun _ h9 => h9) rfl dX1_coils_75 ?_
            refine lv_iload_n hx hb dX1_coils_78 rfl (lv_at hl 3 rfl) ?_
            refine gz_iald (k := i * 12 + (cn - 1)) hx hb hK hP 1 0 rfl rfl (by omega) (by omega) dX1_coils_79 ?_
            refine lv_bipush (v := nI 6) hx hb dX1_coils_80 (by decide) ?_
            refine lv_isub hx hb dX1_coils_82 ?_
            refine gz_topI (y := nI 3) (by rw [ek]; decide) ?_
            refine lv_istore (lv' := [(6, .int (nI 3)), (1, .int (q.2 + (nI 1))), (5, .int (fc (i * 12 + (cn - 1)))), (4, .int (fp (i * 13 + (cn - 1)))), (3, .int (nI (i * 12 + (cn - 1)))), (2, .int (nI i)), (0, .ref gm)]) hx hb dX1_coils_83 hl (by decide) rfl (fun ls hl => ?_)
            refine lv_aload_n hx hb dX1_coils_85 rfl (lv_at hl 6 rfl) ?_
            refine va_get (D := (dC, dI)) (ci := 1) (v := .ref av) (C := RX1) (T := TX1) (N := 10) hx hb hts hin1 hown hK hP 0 rfl rfl 6 (by decide) lk23 (fun _ h9 => h9) rfl dX1_coils_86 ?_
            refine lv_iload hx hb dX1_coils_89 (lv_at hl 2 rfl) ?_
            refine lv_iload hx hb dX1_coils_91 (lv_at hl 0 rfl) ?_
            refine lv_if_ne (tgt := 109) hx hb dX1_coils_93 (by decide) (fun c_4 => ?_) (fun c_4 => False.elim (absurd c_4 (by decide)))
            refine lv_iload hx hb dX1_coils_109 (lv_at hl 0 rfl) ?_
            refine lv_iconst (v := nI 1) hx hb dX1_coils_111 (by decide) ?_
            refine gz_icmp_ne (tgt := 128) (za := ((3 : Nat) : Int)) (zb := ((1 : Nat) : Int)) hx hb dX1_coils_112 (by decide) (nI_toInt (by omega)) (nI_toInt (by omega)) (fun c_5 => ?_) (fun c_5 => False.elim (absurd c_5 (by decide)))
            refine lv_iload hx hb dX1_coils_128 (lv_at hl 3 rfl) ?_
            refine lv_if_eq (tgt := 147) hx hb dX1_coils_130 (by decide) (fun c_6 => False.elim (absurd (hp.symm.trans c_6) (by decide))) (fun c_6 => ?_)
            refine lv_iload hx hb dX1_coils_133 (lv_at hl 0 rfl) ?_
            refine lv_iconst (v := nI 2) hx hb dX1_coils_135 (by decide) ?_
            refine gz_icmp_ne (tgt := 143) (za := ((3 : Nat) : Int)) (zb := ((2 : Nat) : Int)) hx hb dX1_coils_136 (by decide) (nI_toInt (by omega)) (nI_toInt (by omega)) (fun c_7 => ?_) (fun c_7 => False.elim (absurd c_7 (by decide)))
            refine lv_iconst (v := nI 0) hx hb dX1_coils_143 (by decide) ?_
            refine lv_goto (tgt := 154) hx hb dX1_coils_144 (by decide) ?_
            refine va_iast hx hb hK hP hD hS 5 0 rfl rfl hci dX1_coils_154 (fun H locs hP hD hS => ?_)
            have hP : va_P (dC, dI) vwCl (mw cA cZ gm ak ac ab al av ah ap fk fc fs fl fp (upd q.1 (fc (i * 12 + (cn - 1))).toNatClampNeg (nI 0)) ft (nI rn) (nI cn) sc) H := hP
            have hD : va_D A (mw cA cZ gm ak ac ab al av ah ap fk fc fs fl fp (upd q.1 (fc (i * 12 + (cn - 1))).toNatClampNeg (nI 0)) ft (nI rn) (nI cn) sc) := hD
            refine lv_iinc (v := nI (i + 1)) (lv' := [(2, .int (nI (i + 1))), (6, .int (nI 3)), (1, .int (q.2 + (nI 1))), (5, .int (fc (i * 12 + (cn - 1)))), (4, .int (fp (i * 13 + (cn - 1)))), (3, .int (nI (i * 12 + (cn - 1)))), (0, .ref gm)]) hx hb dX1_coils_155 hl (k := 5) rfl (nI_1 _) (by decide) rfl (fun ls hl => ?_)
            refine lv_goto (tgt := 4) hx hb dX1_coils_158 (by decide) ?_
            exact ih (i + 1) (upd q.1 (fc (i * 12 + (cn - 1))).toNatClampNeg (nI 0), q.2 + (nI 1)) (by omega) (by show _ = gCo1 _ _ _ _ _ (gCo fk fc fp cn (fv, nI 0) i); rw [← hq]; unfold gCo1; rw [if_pos hco, ek, hp, gCoil_91]) H locs hP hD hS ls (lv_sub hl [0, 2, 6] rfl)
      · skip
        refine lv_iload_n hx hb dX1_coils_4 rfl (lv_at hl 0 rfl) ?_
        refine lv_aload_n hx hb dX1_coils_5 rfl (lv_at hl 2 rfl) ?_
        refine va_get (D := (dC, dI)) (ci := 1) (v := .int (nI rn)) (C := RX1) (T := TX1) (N := 10) hx hb hts hin1 hown hK hP 0 rfl rfl 0 (by decide) lk36 (fun _ h9 => h9) rfl dX1_coils_6 ?_
        refine gz_icmp_ge (tgt := 161) (za := ((i : Nat) : Int)) (zb := ((rn : Nat) : Int)) hx hb dX1_coils_9 (by decide) (nI_toInt (by omega)) (nI_toInt (by omega)) (fun c_1 => False.elim (by omega)) (fun c_1 => ?_)
        refine lv_bipush (v := nI 12) hx hb dX1_coils_12 (by decide) ?_
        refine lv_iload_n hx hb dX1_coils_14 rfl (lv_at hl 0 rfl) ?_
        refine gz_imulc (i := 12) (j := i) hx hb dX1_coils_15 ?_
        refine lv_aload_n hx hb dX1_coils_16 rfl (lv_at hl 2 rfl) ?_
        refine va_get (D := (dC, dI)) (ci := 1) (v := .int (nI cn)) (C := RX1) (T := TX1) (N := 10) hx hb hts hin1 hown hK hP 0 rfl rfl 1 (by decide) lk40 (fun _ h9 => h9) rfl dX1_coils_17 ?_
        refine gz_iadd (i := i * 12) (j := cn) hx hb dX1_coils_20 ?_
        refine lv_iconst (v := nI 1) hx hb dX1_coils_21 (by decide) ?_
        refine gz_isub (i := (i * 12) + cn) (j := 1) hx hb dX1_coils_22 (by omega) ?_
        refine gz_top (j := i * 12 + (cn - 1)) (by omega) ?_
        refine lv_istore_n (lv' := [(3, .int (nI (i * 12 + (cn - 1)))), (2, .int (nI i)), (1, .int (q.2)), (0, .ref gm)]) hx hb dX1_coils_23 rfl hl (by decide) rfl (fun ls hl => ?_)
        refine lv_aload_n hx hb dX1_coils_24 rfl (lv_at hl 3 rfl) ?_
        refine va_get (D := (dC, dI)) (ci := 1) (v := .ref ap) (C := RX1) (T := TX1) (N := 10) hx hb hts hin1 hown hK hP 0 rfl rfl 8 (by decide) lk29 (fun _ h9 => h9) rfl dX1_coils_25 ?_
        refine lv_bipush (v := nI 13) hx hb dX1_coils_28 (by decide) ?_
        refine lv_iload_n hx hb dX1_coils_30 rfl (lv_at hl 1 rfl) ?_
        refine gz_imulc (i := 13) (j := i) hx hb dX1_coils_31 ?_
        refine lv_aload_n hx hb dX1_coils_32 rfl (lv_at hl 3 rfl) ?_
        refine va_get (D := (dC, dI)) (ci := 1) (v := .int (nI cn)) (C := RX1) (T := TX1) (N := 10) hx hb hts hin1 hown hK hP 0 rfl rfl 1 (by decide) lk40 (fun _ h9 => h9) rfl dX1_coils_33 ?_
        refine gz_iadd (i := i * 13) (j := cn) hx hb dX1_coils_36 ?_
        refine lv_iconst (v := nI 1) hx hb dX1_coils_37 (by decide) ?_
        refine gz_isub (i := (i * 13) + cn) (j := 1) hx hb dX1_coils_38 (by omega) ?_
        refine gz_top (j := i * 13 + (cn - 1)) (by omega) ?_
        refine gz_zald (k := i * 13 + (cn - 1)) hx hb hK hP 7 1 rfl rfl (by omega) (by omega) dX1_coils_39 ?_
        refine lv_istore (lv' := [(4, .int (fp (i * 13 + (cn - 1)))), (3, .int (nI (i * 12 + (cn - 1)))), (2, .int (nI i)), (1, .int (q.2)), (0, .ref gm)]) hx hb dX1_coils_40 hl (by decide) rfl (fun ls hl => ?_)
        refine lv_aload_n hx hb dX1_coils_42 rfl (lv_at hl 4 rfl) ?_
        refine va_get (D := (dC, dI)) (ci := 1) (v := .ref ac) (C := RX1) (T := TX1) (N := 10) hx hb hts hin1 hown hK hP 0 rfl rfl 3 (by decide) lk13 (fun _ h9 => h9) rfl dX1_coils_43 ?_
        refine lv_iload_n hx hb dX1_coils_46 rfl (lv_at hl 1 rfl) ?_
        refine gz_iald (k := i * 12 + (cn - 1)) hx hb hK hP 2 0 rfl rfl (by omega) (by omega) dX1_coils_47 ?_
        refine lv_istore (lv' := [(5, .int (fc (i * 12 + (cn - 1)))), (4, .int (fp (i * 13 + (cn - 1)))), (3, .int (nI (i * 12 + (cn - 1)))), (2, .int (nI i)), (1, .int (q.2)), (0, .ref gm)]) hx hb dX1_coils_48 hl (by decide) rfl (fun ls hl => ?_)
        refine lv_aload_n hx hb dX1_coils_50 rfl (lv_at hl 5 rfl) ?_
        refine va_get (D := (dC, dI)) (ci := 1) (v := .ref ak) (C := RX1) (T := TX1) (N := 10) hx hb hts hin1 hown hK hP 0 rfl rfl 2 (by decide) lk7 (fun _ h9 => h9) rfl dX1_coils_51 ?_
        refine lv_iload_n hx hb dX1_coils_54 rfl (lv_at hl 2 rfl) ?_
        refine gz_iald (k := i * 12 + (cn - 1)) hx hb hK hP 1 0 rfl rfl (by omega) (by omega) dX1_coils_55 ?_
        refine lv_bipush (v := nI 6) hx hb dX1_coils_56 (by decide) ?_
        refine gz_icmp_lt (tgt := 155) (za := (fk (i * 12 + (cn - 1))).toInt) (zb := ((6 : Nat) : Int)) hx hb dX1_coils_58 (by decide) rfl (nI_toInt (by omega)) (fun c_2 => ?_) (fun c_2 => False.elim (by omega))
        refine lv_iinc (v := nI (i + 1)) (lv' := [(2, .int (nI (i + 1))), (5, .int (fc (i * 12 + (cn - 1)))), (4, .int (fp (i * 13 + (cn - 1)))), (3, .int (nI (i * 12 + (cn - 1)))), (1, .int (q.2)), (0, .ref gm)]) hx hb dX1_coils_155 hl (k := 3) rfl (nI_1 _) (by decide) rfl (fun ls hl => ?_)
        refine lv_goto (tgt := 4) hx hb dX1_coils_158 (by decide) ?_
        exact ih (i + 1) (q.1, q.2) (by omega) (by show _ = gCo1 _ _ _ _ _ (gCo fk fc fp cn (fv, nI 0) i); rw [← hq]; unfold gCo1; rw [if_neg hco]) H locs hP hD hS ls (lv_sub hl [0, 4, 5] rfl)
  refine lv_iconst (v := nI 0) hx hb dX1_coils_0 (by decide) ?_
  refine lv_istore_n (lv' := [(1, .int (nI 0)), (0, .ref gm)]) hx hb dX1_coils_1 rfl hl (by decide) rfl (fun ls hl => ?_)
  refine lv_iconst (v := nI 0) hx hb dX1_coils_2 (by decide) ?_
  refine lv_istore_n (lv' := [(2, .int (nI 0)), (1, .int (nI 0)), (0, .ref gm)]) hx hb dX1_coils_3 rfl hl (by decide) rfl (fun ls hl => ?_)
  exact loop rn 0 (fv, nI 0) (by omega) rfl H locs hP hD hS ls (lv_sub hl [0, 1, 2] rfl)
end
section
set_option maxHeartbeats 4000000 in
set_option maxRecDepth 100000 in
theorem cM_scan (l : Launch) (dC : Nat → ClassId) (dI : Nat → Nat → Nat) (sz : Nat) (cA cZ : ClassId) (gm ak ac ab al av ah ap : Nat) (fk fc fs fl fp fv ft : Nat → Int32) (rn cn : Nat) (sc : Int32)  (hrn : 1 ≤ rn ∧ rn ≤ 12) (hcn : 1 ≤ cn ∧ cn ≤ 12) (hcI : ∀ k, k < 144 → vp_in (fc k) 40) (hkI : ∀ k, k < 144 → vp_in (fk k) 10) (hfl : g01 156 fl) (hfp : g01 156 fp) (hlk : gLk fl rn cn) : Met l yX1_scan wsX1_scan ({ frames := 1, cells := 0, slots := 0, locals := 26 }) (gPw (dC, dI) vwCl [(cA, .int), (cZ, .boolean)] [.ref gm] sz (mw cA cZ gm ak ac ab al av ah ap fk fc fs fl fp fv ft (nI rn) (nI cn) sc)) (gQA (dC, dI) vwCl [(cA, .int), (cZ, .boolean)] ((gCo fk fc (gCols fk fc fl fv rn (gP0 fp rn, fs) cn).1 cn (fv, nI 0) rn).2) (va_A (mw cA cZ gm ak ac ab al av ah ap fk fc fs fl fp fv ft (nI rn) (nI cn) sc) sz) (mw cA cZ gm ak ac ab al av ah ap fk fc ((gCols fk fc fl fv rn (gP0 fp rn, fs) cn).2) fl ((gCols fk fc fl fv rn (gP0 fp rn, fs) cn).1) ((gCo fk fc (gCols fk fc fl fv rn (gP0 fp rn, fs) cn).1 cn (fv, nI 0) rn).1) fv (nI rn) (nI cn) (nI 1))) 0 0 (va_A (mw cA cZ gm ak ac ab al av ah ap fk fc fs fl fp fv ft (nI rn) (nI cn) sc) sz) := by
  refine Met.ofW (cc := cX1_scan) (maxL := 4) (ret := (some .int)) (by decide) rfl ?_
  intro p e s m args below meth c s₁ B hml hv
  obtain ⟨rfl, hsz, hP, hK, hD0⟩ := hv
  have hx := B.exec
  have hb := B.bytes
  have hr := B.returns
  have hts := atoms_spec (ws := wsX1_scan) B.pre
  have hown : s.vm.findClass RX1 = some m.cls := findClass_of_methodNamed B.named
  have hlocks := B.notSynchronized
  subst hsz
  have hD := hD0.self (sz := s.heap.size)
  generalize hAe : va_A (mw cA cZ gm ak ac ab al av ah ap fk fc fs fl fp fv ft (nI rn) (nI cn) sc) s.heap.size = A at hD ⊢
  have hA : ∀ q : Nat, s.heap.size ≤ q → A q := fun q h => by rw [← hAe]; exact Or.inr h
  have hS : va_S A s.heap s.heap [] := va_S.rf
  have hin1 : ∀ w ∈ u_ws RX1 TX1 10, w ∈ wsX1_scan := by decide +kernel
  have lk26 := hts (.fieldLink RX1 26 "LadderGridModel" "then" "[I") (by decide +kernel)
  have lk23 := hts (.fieldLink RX1 23 "LadderGridModel" "values" "[I") (by decide +kernel)
  have lk36 := hts (.fieldLink RX1 36 "LadderGridModel" "rows" "I") (by decide +kernel)
  have lk29 := hts (.fieldLink RX1 29 "LadderGridModel" "hasPower" "[Z") (by decide +kernel)
  have lk40 := hts (.fieldLink RX1 40 "LadderGridModel" "columns" "I") (by decide +kernel)
  have lk16 := hts (.fieldLink RX1 16 "LadderGridModel" "before" "[I") (by decide +kernel)
  have lk13 := hts (.fieldLink RX1 13 "LadderGridModel" "variables" "[I") (by decide +kernel)
  have lk43 := hts (.fieldLink RX1 43 "LadderGridModel" "isScanned" "Z") (by decide +kernel)
  have hl := lv_entry ([.ref gm]) (n := 4) (Nat.le_of_ble_eq_true rfl)
  rw [lg_entry_eq]
  generalize (lg_sl ([.ref gm]) ++ List.replicate (4 - (lg_sl ([.ref gm])).length) Slot.unset).toArray = ls at hl ⊢
  have hl : lv_has ls 4 [(0, .ref gm)] := hl
  suffices key : ∀ (H : Heap) (locs : List Loc), va_P (dC, dI) vwCl (mw cA cZ gm ak ac ab al av ah ap fk fc fs fl fp fv ft (nI rn) (nI cn) sc) H → va_D A (mw cA cZ gm ak ac ab al av ah ap fk fc fs fl fp fv ft (nI rn) (nI cn) sc) → va_S A s.heap H locs → W p l e (headSpec wsX1_scan ({ frames := 1, cells := 0, slots := 0, locals := 26 })).room s m ([.ref gm] : List Value).toArray below meth c H locs 0 0 (MQ below (gQA (dC, dI) vwCl [(cA, .int), (cZ, .boolean)] ((gCo fk fc (gCols fk fc fl fv rn (gP0 fp rn, fs) cn).1 cn (fv, nI 0) rn).2) A (mw cA cZ gm ak ac ab al av ah ap fk fc ((gCols fk fc fl fv rn (gP0 fp rn, fs) cn).2) fl ((gCols fk fc fl fv rn (gP0 fp rn, fs) cn).1) ((gCo fk fc (gCols fk fc fl fv rn (gP0 fp rn, fs) cn).1 cn (fv, nI 0) rn).1) fv (nI rn) (nI cn) (nI 1))) ([.ref gm] : List Value).toArray s 0 0 A) (F0 m 0 ls []) from key s.heap [] hP hD hS
  clear hP hD hS
  intro H locs hP hD hS
  have loop3 : ∀ (n : Nat) (j : Nat) (q : (Nat → Int32) × (Nat → Int32)), j + n = cn → g01 156 q.1 → q = gCols fk fc fl fv rn (gP0 fp rn, fs) j → ∀ (H : Heap) (locs : List Loc), va_P (dC, dI) vwCl (mw cA cZ gm ak ac ab al av ah ap fk fc q.2 fl q.1 fv fv (nI rn) (nI cn) sc) H → va_D A (mw cA cZ gm ak ac ab al av ah ap fk fc q.2 fl q.1 fv fv (nI rn) (nI cn) sc) → va_S A s.heap H locs → ∀ (ls : Array Slot), lv_has ls 4 [(1, .int (nI j)), (0, .ref gm)] → W p l e (headSpec wsX1_scan ({ frames := 1, cells := 0, slots := 0, locals := 26 })).room s m ([.ref gm] : List Value).toArray below meth c H locs 0 0 (MQ below (gQA (dC, dI) vwCl [(cA, .int), (cZ, .boolean)] ((gCo fk fc (gCols fk fc fl fv rn (gP0 fp rn, fs) cn).1 cn (fv, nI 0) rn).2) A (mw cA cZ gm ak ac ab al av ah ap fk fc ((gCols fk fc fl fv rn (gP0 fp rn, fs) cn).2) fl ((gCols fk fc fl fv rn (gP0 fp rn, fs) cn).1) ((gCo fk fc (gCols fk fc fl fv rn (gP0 fp rn, fs) cn).1 cn (fv, nI 0) rn).1) fv (nI rn) (nI cn) (nI 1))) ([.ref gm] : List Value).toArray s 0 0 A) (F0 m 54 ls []) := by
    intro n
    induction n with
    | zero =>
      intro j q hj hq01 hq H locs hP hD hS ls hl
      refine lv_iload_n hx hb dX1_scan_54 rfl (lv_at hl 0 rfl) ?_
      refine lv_aload_n hx hb dX1_scan_55 rfl (lv_at hl 1 rfl) ?_
      refine va_get (D := (dC, dI)) (ci := 1) (v := .int (nI cn)) (C := RX1) (T := TX1) (N := 10) hx hb hts hin1 hown hK hP 0 rfl rfl 1 (by decide) lk40 (fun _ h9 => h9) rfl dX1_scan_56 ?_
      refine gz_icmp_ge (tgt := 165) (za := ((j : Nat) : Int)) (zb := ((cn : Nat) : Int)) hx hb dX1_scan_59 (by decide) (nI_toInt (by omega)) (nI_toInt (by omega)) (fun c_1 => ?_) (fun c_1 => False.elim (by omega))
      refine lv_aload_n hx hb dX1_scan_165 rfl (lv_at hl 1 rfl) ?_
      refine lv_iconst (v := nI 1) hx hb dX1_scan_166 (by decide) ?_
      refine va_put (D := (dC, dI)) (ci := 1) (v := .int (nI 1)) (ty := .boolean) (C := RX1) (T := TX1) (N := 10) hx hb hts hin1 tyX1 tyX1_ok nmX1 hown hK hP hD hS 0 rfl rfl 9 (by decide) lk43 (fun _ h9 => h9) rfl (by decide +kernel) rfl rfl (Nat.le_of_ble_eq_true rfl) dX1_scan_167 (fun H locs hP hD hS => ?_)
      have hP : va_P (dC, dI) vwCl (mw cA cZ gm ak ac ab al av ah ap fk fc q.2 fl q.1 fv fv (nI rn) (nI cn) (nI 1)) H := hP
      have hD : va_D A (mw cA cZ gm ak ac ab al av ah ap fk fc q.2 fl q.1 fv fv (nI rn) (nI cn) (nI 1)) := hD
      refine lv_aload_n hx hb dX1_scan_170 rfl (lv_at hl 1 rfl) ?_
      refine gz_calli (wc := (mw cA cZ gm ak ac ab al av ah ap fk fc q.2 fl q.1 fv fv (nI rn) (nI cn) (nI 1))) (wr := []) hP hD hS hA [0, 1, 2, 3, 4, 5, 6, 7] [] rfl rfl (by decide) (by decide) (va_runV (As := []) (rest := []) ⟨hx, hb, hml, hown, hts⟩ (cM_coils l dC dI H.size cA cZ gm ak ac ab al av ah ap fk fc q.2 fl q.1 fv fv rn cn (nI 1) hrn hcn hcI hkI hq01) (cwV 0 hts gX1_scan_X1_coils rfl rfl rfl (by decide +kernel) ⟨Nat.le_of_ble_eq_true rfl, Nat.le_of_ble_eq_true rfl⟩) (gz_preVw (q := (RX1, TX1, 10)) (ci := 1) hK hP hD [0, 1, 2, 3, 4, 5, 6, 7] (by decide) rfl rfl rfl rfl) rfl rfl hl.1 rfl (lv_room (Nat.le_of_ble_eq_true rfl)) dX1_scan_171 ⟨Nat.le_of_ble_eq_true rfl, Nat.le_of_ble_eq_true rfl⟩) (fun H locs hP hD hS => ?_)
      have hP : va_P (dC, dI) vwCl (mw cA cZ gm ak ac ab al av ah ap fk fc q.2 fl q.1 ((gCo fk fc q.1 cn (fv, nI 0) rn).1) fv (nI rn) (nI cn) (nI 1)) H := hP
      have hD : va_D A (mw cA cZ gm ak ac ab al av ah ap fk fc q.2 fl q.1 ((gCo fk fc q.1 cn (fv, nI 0) rn).1) fv (nI rn) (nI cn) (nI 1)) := hD
      exact W.iret (v := (gCo fk fc q.1 cn (fv, nI 0) rn).2) hx hb hr (fun t ht hW => ⟨⟨(gCo fk fc q.1 cn (fv, nI 0) rn).2, (), rfl, (by rw [show (gCols fk fc fl fv rn (gP0 fp rn, fs) cn) = q by rw [hq, show j = cn by omega]]), by rw [ht]; exact (by rw [show (gCols fk fc fl fv rn (gP0 fp rn, fs) cn) = q by rw [hq, show j = cn by omega]]; exact hP), va_K.moved hW.alike hK, (by rw [show (gCols fk fc fl fv rn (gP0 fp rn, fs) cn) = q by rw [hq, show j = cn by omega]]; exact hD)⟩, hS.F ht⟩) hS.2.2 dX1_scan_174
    | succ n ih =>
      intro j q hj hq01 hq H locs hP hD hS ls hl
      have inner : ∀ (n : Nat) (i : Nat) (z : (Nat → Int32) × (Nat → Int32)), i + n = rn → g01 156 z.1 → z = gPs fk fc fv j q i → ∀ (H : Heap) (locs : List Loc), va_P (dC, dI) vwCl (mw cA cZ gm ak ac ab al av ah ap fk fc z.2 fl z.1 fv fv (nI rn) (nI cn) sc) H → va_D A (mw cA cZ gm ak ac ab al av ah ap fk fc z.2 fl z.1 fv fv (nI rn) (nI cn) sc) → va_S A s.heap H locs → ∀ (ls : Array Slot), lv_has ls 4 [(2, .int (nI i)), (1, .int (nI j)), (0, .ref gm)] → W p l e (headSpec wsX1_scan ({ frames := 1, cells := 0, slots := 0, locals := 26 })).room s m ([.ref gm] : List Value).toArray below meth c H locs 0 0 (MQ below (gQA (dC, dI) vwCl [(cA, .int), (cZ, .boolean)] ((gCo fk fc (gCols fk fc fl fv rn (gP0 fp rn, fs) cn).1 cn (fv, nI 0) rn).2) A (mw cA cZ gm ak ac ab al av ah ap fk fc ((gCols fk fc fl fv rn (gP0 fp rn, fs) cn).2) fl ((gCols fk fc fl fv rn (gP0 fp rn, fs) cn).1) ((gCo fk fc (gCols fk fc fl fv rn (gP0 fp rn, fs) cn).1 cn (fv, nI 0) rn).1) fv (nI rn) (nI cn) (nI 1))) ([.ref gm] : List Value).toArray s 0 0 A) (F0 m 64 ls []) := by
        intro n
        induction n with
        | zero =>
          intro i z hi hz01 hz H locs hP hD hS ls hl
          by_cases hlast : j + 1 < cn
          · skip
            refine lv_iload_n hx hb dX1_scan_64 rfl (lv_at hl 0 rfl) ?_
            refine lv_aload_n hx hb dX1_scan_65 rfl (lv_at hl 2 rfl) ?_
            refine va_get (D := (dC, dI)) (ci := 1) (v := .int (nI rn)) (C := RX1) (T := TX1) (N := 10) hx hb hts hin1 hown hK hP 0 rfl rfl 0 (by decide) lk36 (fun _ h9 => h9) rfl dX1_scan_66 ?_
            refine gz_icmp_ge (tgt := 142) (za := ((i : Nat) : Int)) (zb := ((rn : Nat) : Int)) hx hb dX1_scan_69 (by decide) (nI_toInt (by omega)) (nI_toInt (by omega)) (fun c_1 => ?_) (fun c_1 => False.elim (by omega))
            refine lv_iload_n hx hb dX1_scan_142 rfl (lv_at hl 1 rfl) ?_
            refine lv_iconst (v := nI 1) hx hb dX1_scan_143 (by decide) ?_
            refine gz_iadd (i := j) (j := 1) hx hb dX1_scan_144 ?_
            refine lv_aload_n hx hb dX1_scan_145 rfl (lv_at hl 2 rfl) ?_
            refine va_get (D := (dC, dI)) (ci := 1) (v := .int (nI cn)) (C := RX1) (T := TX1) (N := 10) hx hb hts hin1 hown hK hP 0 rfl rfl 1 (by decide) lk40 (fun _ h9 => h9) rfl dX1_scan_146 ?_
            refine gz_icmp_ge (tgt := 159) (za := ((j + 1 : Nat) : Int)) (zb := ((cn : Nat) : Int)) hx hb dX1_scan_149 (by decide) (nI_toInt (by omega)) (nI_toInt (by omega)) (fun c_2 => False.elim (by omega)) (fun c_2 => ?_)
            refine lv_aload_n hx hb dX1_scan_152 rfl (lv_at hl 2 rfl) ?_
            refine lv_iload_n hx hb dX1_scan_153 rfl (lv_at hl 1 rfl) ?_
            refine lv_iconst (v := nI 1) hx hb dX1_scan_154 (by decide) ?_
            refine gz_iadd (i := j) (j := 1) hx hb dX1_scan_155 ?_
            refine gz_callv (wc := (mw cA cZ gm ak ac ab al av ah ap fk fc z.2 fl z.1 fv fv (nI rn) (nI cn) sc)) (wr := []) hP hD hS hA [0, 1, 2, 3, 4, 5, 6, 7] [] rfl rfl (by decide) (by decide) (va_runV (As := [.int (nI (j + 1))]) (rest := []) ⟨hx, hb, hml, hown, hts⟩ (cM_spread l dC dI H.size cA cZ gm ak ac ab al av ah ap fk fc z.2 fl z.1 fv fv rn cn sc (j + 1) hrn hcn (by omega) hfl hz01) (cwV 1 hts gX1_scan_X1_spread rfl rfl rfl (by decide +kernel) ⟨Nat.le_of_ble_eq_true rfl, Nat.le_of_ble_eq_true rfl⟩) (gz_preVw (q := (RX1, TX1, 10)) (ci := 1) hK hP hD [0, 1, 2, 3, 4, 5, 6, 7] (by decide) rfl rfl rfl rfl) rfl rfl hl.1 rfl (lv_room (Nat.le_of_ble_eq_true rfl)) dX1_scan_156 ⟨Nat.le_of_ble_eq_true rfl, Nat.le_of_ble_eq_true rfl⟩) (fun H locs hP hD hS => ?_)
            have hP : va_P (dC, dI) vwCl (mw cA cZ gm ak ac ab al av ah ap fk fc z.2 fl (gSh fl (j + 1) rn z.1) fv fv (nI rn) (nI cn) sc) H := hP
            have hD : va_D A (mw cA cZ gm ak ac ab al av ah ap fk fc z.2 fl (gSh fl (j + 1) rn z.1) fv fv (nI rn) (nI cn) sc) := hD
            refine lv_iinc (v := nI (j + 1)) (lv' := [(1, .int (nI (j + 1))), (2, .int (nI i)), (0, .ref gm)]) hx hb dX1_scan_159 hl (k := 1) rfl (nI_1 _) (by decide) rfl (fun ls hl => ?_)
            refine lv_goto (tgt := 54) hx hb dX1_scan_162 (by decide) ?_
            exact ih (j + 1) (gSh fl (j + 1) rn z.1, z.2) (by omega) (gSh_01 hz01) (by subst hq; subst hz; rw [show i = rn by omega]; rfl) H locs hP hD hS ls (lv_sub hl [0, 2] rfl)
          · skip
            refine lv_iload_n hx hb dX1_scan_64 rfl (lv_at hl 0 rfl) ?_
            refine lv_aload_n hx hb dX1_scan_65 rfl (lv_at hl 2 rfl) ?_
            refine va_get (D := (dC, dI)) (ci := 1) (v := .int (nI rn)) (C := RX1) (T := TX1) (N := 10) hx hb hts hin1 hown hK hP 0 rfl rfl 0 (by decide) lk36 (fun _ h9 => h9) rfl dX1_scan_66 ?_
            refine gz_icmp_ge (tgt := 142) (za := ((i : Nat) : Int)) (zb := ((rn : Nat) : Int)) hx hb dX1_scan_69 (by decide) (nI_toInt (by omega)) (nI_toInt (by omega)) (fun c_1 => ?_) (fun c_1 => False.elim (by omega))
            refine lv_iload_n hx hb dX1_scan_142 rfl (lv_at hl 1 rfl) ?_
            refine lv_iconst (v := nI 1) hx hb dX1_scan_143 (by decide) ?_
            refine gz_iadd (i := j) (j := 1) hx hb dX1_scan_144 ?_
            refine lv_aload_n hx hb dX1_scan_145 rfl (lv_at hl 2 rfl) ?_
            refine va_get (D := (dC, dI)) (ci := 1) (v := .int (nI cn)) (C := RX1) (T := TX1) (N := 10) hx hb hts hin1 hown hK hP 0 rfl rfl 1 (by decide) lk40 (fun _ h9 => h9) rfl dX1_scan_146 ?_
            refine gz_icmp_ge (tgt := 159) (za := ((j + 1 : Nat) : Int)) (zb := ((cn : Nat) : Int)) hx hb dX1_scan_149 (by decide) (nI_toInt (by omega)) (nI_toInt (by omega)) (fun c_2 => ?_) (fun c_2 => False.elim (by omega))
            refine lv_iinc (v := nI (j + 1)) (lv' := [(1, .int (nI (j + 1))), (2, .int (nI i)), (0, .ref gm)]) hx hb dX1_scan_159 hl (k := 1) rfl (nI_1 _) (by decide) rfl (fun ls hl => ?_)
            refine lv_goto (tgt := 54) hx hb dX1_scan_162 (by decide) ?_
            exact ih (j + 1) (z.1, z.2) (by omega) hz01 (by subst hq; subst hz; rw [show i = rn by omega]; show _ = (gSh fl (j + 1) rn (gPs fk fc fv j (gCols fk fc fl fv rn (gP0 fp rn, fs) j) rn).1, _); rw [gSh_none (fun r hr hl1 => by have := hlk r (j + 1) (by omega) (by omega) hl1; omega)]) H locs hP hD hS ls (lv_sub hl [0, 2] rfl)
        | succ n ih =>
          intro i z hi hz01 hz H locs hP hD hS ls hl
          have hci : vp_in (fc (i * 12 + j)) 40 := hcI _ (by omega)
          rcases hz01 (i * 13 + j) (by omega) with hp | hp
          · skip
            refine lv_iload_n hx hb dX1_scan_64 rfl (lv_at hl 0 rfl) ?_
            refine lv_aload_n hx hb dX1_scan_65 rfl (lv_at hl 2 rfl) ?_
            refine va_get (D := (dC, dI)) (ci := 1) (v := .int (nI rn)) (C := RX1) (T := TX1) (N := 10) hx hb hts hin1 hown hK hP 0 rfl rfl 0 (by decide) lk36 (fun _ h9 => h9) rfl dX1_scan_66 ?_
            refine gz_icmp_ge (tgt := 142) (za := ((i : Nat) : Int)) (zb := ((rn : Nat) : Int)) hx hb dX1_scan_69 (by decide) (nI_toInt (by omega)) (nI_toInt (by omega)) (fun c_1 => False.elim (by omega)) (fun c_1 => ?_)
            refine lv_bipush (v := nI 12) hx hb dX1_scan_72 (by decide) ?_
            refine lv_iload_n hx hb dX1_scan_74 rfl (lv_at hl 0 rfl) ?_
            refine gz_imulc (i := 12) (j := i) hx hb dX1_scan_75 ?_
            refine lv_iload_n hx hb dX1_scan_76 rfl (lv_at hl 1 rfl) ?_
            refine gz_iadd (i := i * 12) (j := j) hx hb dX1_scan_77 ?_
            refine lv_istore_n (lv' := [(3, .int (nI ((i * 12) + j))), (2, .int (nI i)), (1, .int (nI j)), (0, .ref gm)]) hx hb dX1_scan_78 rfl hl (by decide) rfl (fun ls hl => ?_)
            refine lv_aload_n hx hb dX1_scan_79 rfl (lv_at hl 3 rfl) ?_
            refine va_get (D := (dC, dI)) (ci := 1) (v := .ref ap) (C := RX1) (T := TX1) (N := 10) hx hb hts hin1 hown hK hP 0 rfl rfl 8 (by decide) lk29 (fun _ h9 => h9) rfl dX1_scan_80 ?_
            refine lv_bipush (v := nI 13) hx hb dX1_scan_83 (by decide) ?_
            refine lv_iload_n hx hb dX1_scan_85 rfl (lv_at hl 1 rfl) ?_
            refine gz_imulc (i := 13) (j := i) hx hb dX1_scan_86 ?_
            refine lv_iload_n hx hb dX1_scan_87 rfl (lv_at hl 2 rfl) ?_
            refine gz_iadd (i := i * 13) (j := j) hx hb dX1_scan_88 ?_
            refine lv_iconst (v := nI 1) hx hb dX1_scan_89 (by decide) ?_
            refine gz_iadd (i := (i * 13) + j) (j := 1) hx hb dX1_scan_90 ?_
            refine gz_top (j := i * 13 + (j + 1)) (by omega) ?_
            refine lv_aload_n hx hb dX1_scan_91 rfl (lv_at hl 3 rfl) ?_
            refine va_get (D := (dC, dI)) (ci := 1) (v := .ref ap) (C := RX1) (T := TX1) (N := 10) hx hb hts hin1 hown hK hP 0 rfl rfl 8 (by decide) lk29 (fun _ h9 => h9) rfl dX1_scan_92 ?_
            refine lv_bipush (v := nI 13) hx hb dX1_scan_95 (by decide) ?_
            refine lv_iload_n hx hb dX1_scan_97 rfl (lv_at hl 1 rfl) ?_
            refine gz_imulc (i := 13) (j := i) hx hb dX1_scan_98 ?_
            refine lv_iload_n hx hb dX1_scan_99 rfl (lv_at hl 2 rfl) ?_
            refine gz_iadd (i := i * 13) (j := j) hx hb dX1_scan_100 ?_
            refine gz_zald (k := (i * 13) + j) hx hb hK hP 7 1 rfl rfl (by omega) (by omega) dX1_scan_101 ?_
            refine lv_if_eq (tgt := 117) hx hb dX1_scan_102 (by decide) (fun c_2 => ?_) (fun c_2 => False.elim (c_2 hp))
            refine lv_iconst (v := nI 0) hx hb dX1_scan_117 (by decide) ?_
            refine gz_zast (k := i * 13 + (j + 1)) hx hb hK hP hD hS 7 1 rfl rfl gz_nar0 (by omega) (by omega) dX1_scan_118 (fun H locs hP hD hS => ?_)
            have hP : va_P (dC, dI) vwCl (mw cA cZ gm ak ac ab al av ah ap fk fc z.2 fl (upd z.1 (i * 13 + (j + 1)) (nI 0)) fv fv (nI rn) (nI cn) sc) H := hP
            have hD : va_D A (mw cA cZ gm ak ac ab al av ah ap fk fc z.2 fl (upd z.1 (i * 13 + (j + 1)) (nI 0)) fv fv (nI rn) (nI cn) sc) := hD
            refine lv_aload_n hx hb dX1_scan_119 rfl (lv_at hl 3 rfl) ?_
            refine va_get (D := (dC, dI)) (ci := 1) (v := .ref ab) (C := RX1) (T := TX1) (N := 10) hx hb hts hin1 hown hK hP 0 rfl rfl 4 (by decide) lk16 (fun _ h9 => h9) rfl dX1_scan_120 ?_
            refine lv_iload_n hx hb dX1_scan_123 rfl (lv_at hl 0 rfl) ?_
            refine lv_aload_n hx hb dX1_scan_124 rfl (lv_at hl 3 rfl) ?_
            refine va_get (D := (dC, dI)) (ci := 1) (v := .ref ah) (C := RX1) (T := TX1) (N := 10) hx hb hts hin1 hown hK hP 0 rfl rfl 7 (by decide) lk26 (fun _ h9 => h9) rfl dX1_scan_125 ?_
            refine lv_aload_n hx hb dX1_scan_128 rfl (lv_at hl 3 rfl) ?_
            refine va_get (D := (dC, dI)) (ci := 1) (v := .ref ac) (C := RX1) (T := TX1) (N := 10) hx hb hts hin1 hown hK hP 0 rfl rfl 3 (by decide) lk13 (fun _ h9 => h9) rfl dX1_scan_129 ?_
            refine lv_iload_n hx hb dX1_scan_132 rfl (lv_at hl 0 rfl) ?_
            refine gz_iald (k := (i * 12) + j) hx hb hK hP 2 0 rfl rfl (by omega) (by omega) dX1_scan_133 ?_
            refine va_iald hx hb hK hP 6 0 rfl rfl hci dX1_scan_134 ?_
            refine gz_iast (k := (i * 12) + j) hx hb hK hP hD hS 3 0 rfl rfl (by omega) (by omega) dX1_scan_135 (fun H locs hP hD hS => ?_)
            have hP : va_P (dC, dI) vwCl (mw cA cZ gm ak ac ab al av ah ap fk fc (upd z.2 ((i * 12) + j) (fv (fc ((i * 12) + j)).toNatClampNeg)) fl (upd z.1 (i * 13 + (j + 1)) (nI 0)) fv fv (nI rn) (nI cn) sc) H := hP
            have hD : va_D A (mw cA cZ gm ak ac ab al av ah ap fk fc (upd z.2 ((i * 12) + j) (fv (fc ((i * 12) + j)).toNatClampNeg)) fl (upd z.1 (i * 13 + (j + 1)) (nI 0)) fv fv (nI rn) (nI cn) sc) := hD
            refine lv_iinc (v := nI (i + 1)) (lv' := [(2, .int (nI (i + 1))), (3, .int (nI ((i * 12) + j))), (1, .int (nI j)), (0, .ref gm)]) hx hb dX1_scan_136 hl (k := 1) rfl (nI_1 _) (by decide) rfl (fun ls hl => ?_)
            refine lv_goto (tgt := 64) hx hb dX1_scan_139 (by decide) ?_
            exact ih (i + 1) (upd z.1 (i * 13 + (j + 1)) (nI 0), upd z.2 ((i * 12) + j) (fv (fc ((i * 12) + j)).toNatClampNeg)) (by omega) (g01_upd hz01 (by first | exact Or.inl rfl | exact Or.inr rfl)) (by show _ = gPs1 _ _ _ _ _ (gPs fk fc fv j q i); rw [← hz]; unfold gPs1; rw [if_neg (by rw [hp]; decide)]) H locs hP hD hS ls (lv_sub hl [0, 2, 3] rfl)
          · rcases gLets_01 (fk (i * 12 + j)) (fv (fc (i * 12 + j)).toNatClampNeg) (z.2 (i * 12 + j)) with hg | hg
            · skip
              refine lv_iload_n hx hb dX1_scan_64 rfl (lv_at hl 0 rfl) ?_
              refine lv_aload_n hx hb dX1_scan_65 rfl (lv_at hl 2 rfl) ?_
              refine va_get (D := (dC, dI)) (ci := 1) (v := .int (nI rn)) (C := RX1) (T := TX1) (N := 10) hx hb hts hin1 hown hK hP 0 rfl rfl 0 (by decide) lk36 (fun _ h9 => h9) rfl dX1_scan_66 ?_
              refine gz_icmp_ge (tgt := 142) (za := ((i : Nat) : Int)) (zb := ((rn : Nat) : Int)) hx hb dX1_scan_69 (by decide) (nI_toInt (by omega)) (nI_toInt (by omega)) (fun c_1 => False.elim (by omega)) (fun c_1 => ?_)
              refine lv_bipush (v := nI 12) hx hb dX1_scan_72 (by decide) ?_
              refine lv_iload_n hx hb dX1_scan_74 rfl (lv_at hl 0 rfl) ?_
              refine gz_imulc (i := 12) (j := i) hx hb dX1_scan_75 ?_
              refine lv_iload_n hx hb dX1_scan_76 rfl (lv_at hl 1 rfl) ?_
              refine gz_iadd (i := i * 12) (j := j) hx hb dX1_scan_77 ?_
              refine lv_istore_n (lv' := [(3, .int (nI ((i * 12) + j))), (2, .int (nI i)), (1, .int (nI j)), (0, .ref gm)]) hx hb dX1_scan_78 rfl hl (by decide) rfl (fun ls hl => ?_)
              refine lv_aload_n hx hb dX1_scan_79 rfl (lv_at hl 3 rfl) ?_
              refine va_get (D := (dC, dI)) (ci := 1) (v := .ref ap) (C := RX1) (T := TX1) (N := 10) hx hb hts hin1 hown hK hP 0 rfl rfl 8 (by decide) lk29 (fun _ h9 => h9) rfl dX1_scan_80 ?_
              refine lv_bipush (v := nI 13) hx hb dX1_scan_83 (by decide) ?_
              refine lv_iload_n hx hb dX1_scan_85 rfl (lv_at hl 1 rfl) ?_
              refine gz_imulc (i := 13) (j := i) hx hb dX1_scan_86 ?_
              refine lv_iload_n hx hb dX1_scan_87 rfl (lv_at hl 2 rfl) ?_
              refine gz_iadd (i := i * 13) (j := j) hx hb dX1_scan_88 ?_
              refine lv_iconst (v := nI 1) hx hb dX1_scan_89 (by decide) ?_
              refine gz_iadd (i := (i * 13) + j) (j := 1) hx hb dX1_scan_90 ?_
              refine gz_top (j := i * 13 + (j + 1)) (by omega) ?_
              refine lv_aload_n hx hb dX1_scan_91 rfl (lv_at hl 3 rfl) ?_
              refine va_get (D := (dC, dI)) (ci := 1) (v := .ref ap) (C := RX1) (T := TX1) (N := 10) hx hb hts hin1 hown hK hP 0 rfl rfl 8 (by decide) lk29 (fun _ h9 => h9) rfl dX1_scan_92 ?_
              refine lv_bipush (v := nI 13) hx hb dX1_scan_95 (by decide) ?_
              refine lv_iload_n hx hb dX1_scan_97 rfl (lv_at hl 1 rfl) ?_
              refine gz_imulc (i := 13) (j := i) hx hb dX1_scan_98 ?_
              refine lv_iload_n hx hb dX1_scan_99 rfl (lv_at hl 2 rfl) ?_
              refine gz_iadd (i := i * 13) (j := j) hx hb dX1_scan_100 ?_
              refine gz_zald (k := (i * 13) + j) hx hb hK hP 7 1 rfl rfl (by omega) (by omega) dX1_scan_101 ?_
              refine lv_if_eq (tgt := 117) hx hb dX1_scan_102 (by decide) (fun c_2 => False.elim (absurd (hp.symm.trans c_2) (by decide))) (fun c_2 => ?_)
              refine lv_aload_n hx hb dX1_scan_105 rfl (lv_at hl 3 rfl) ?_
              refine lv_iload_n hx hb dX1_scan_106 rfl (lv_at hl 0 rfl) ?_
              refine gz_callR (W.runV (As := [.int (nI ((i * 12) + j))]) (rest := [.int (nI (i * 13 + (j + 1))), .ref ap]) ⟨hx, hb, hml, hown, hts⟩ (cM_lets l dC dI cA cZ gm ak ac ab al av ah ap fk fc z.2 fl z.1 fv fv rn cn sc ((i * 12) + j) hrn hcn (by omega) hcI) (cwV 1 hts gX1_scan_X1_lets rfl rfl rfl (by decide +kernel) ⟨Nat.le_of_ble_eq_true rfl, Nat.le_of_ble_eq_true rfl⟩) (gz_preV (q := (RX1, TX1, 10)) (ci := 1) hK hP [0, 1, 2, 3, 4, 5, 6, 7] rfl rfl rfl) rfl rfl hl.1 rfl (lv_room (Nat.le_of_ble_eq_true rfl)) dX1_scan_107 ⟨Nat.le_of_ble_eq_true rfl, Nat.le_of_ble_eq_true rfl⟩) ?_
              refine lv_if_eq (tgt := 117) hx hb dX1_scan_110 (by decide) (fun c_3 => ?_) (fun c_3 => False.elim (c_3 hg))
              refine lv_iconst (v := nI 0) hx hb dX1_scan_117 (by decide) ?_
              refine gz_zast (k := i * 13 + (j + 1)) hx hb hK hP hD hS 7 1 rfl rfl gz_nar0 (by omega) (by omega) dX1_scan_118 (fun H locs hP hD hS => ?_)
              have hP : va_P (dC, dI) vwCl (mw cA cZ gm ak ac ab al av ah ap fk fc z.2 fl (upd z.1 (i * 13 + (j + 1)) (nI 0)) fv fv (nI rn) (nI cn) sc) H := hP
              have hD : va_D A (mw cA cZ gm ak ac ab al av ah ap fk fc z.2 fl (upd z.1 (i * 13 + (j + 1)) (nI 0)) fv fv (nI rn) (nI cn) sc) := hD
              refine lv_aload_n hx hb dX1_scan_119 rfl (lv_at hl 3 rfl) ?_
              refine va_get (D := (dC, dI)) (ci := 1) (v := .ref ab) (C := RX1) (T := TX1) (N := 10) hx hb hts hin1 hown hK hP 0 rfl rfl 4 (by decide) lk16 (fun _ h9 => h9) rfl dX1_scan_120 ?_
              refine lv_iload_n hx hb dX1_scan_123 rfl (lv_at hl 0 rfl) ?_
              refine lv_aload_n hx hb dX1_scan_124 rfl (lv_at hl 3 rfl) ?_
              refine va_get (D := (dC, dI)) (ci := 1) (v := .ref ah) (C := RX1) (T := TX1) (N := 10) hx hb hts hin1 hown hK hP 0 rfl rfl 7 (by decide) lk26 (fun _ h9 => h9) rfl dX1_scan_125 ?_
              refine lv_aload_n hx hb dX1_scan_128 rfl (lv_at hl 3 rfl) ?_
              refine va_get (D := (dC, dI)) (ci := 1) (v := .ref ac) (C := RX1) (T := TX1) (N := 10) hx hb hts hin1 hown hK hP 0 rfl rfl 3 (by decide) lk13 (fun _ h9 => h9) rfl dX1_scan_129 ?_
              refine lv_iload_n hx hb dX1_scan_132 rfl (lv_at hl 0 rfl) ?_
              refine gz_iald (k := (i * 12) + j) hx hb hK hP 2 0 rfl rfl (by omega) (by omega) dX1_scan_133 ?_
              refine va_iald hx hb hK hP 6 0 rfl rfl hci dX1_scan_134 ?_
              refine gz_iast (k := (i * 12) + j) hx hb hK hP hD hS 3 0 rfl rfl (by omega) (by omega) dX1_scan_135 (fun H locs hP hD hS => ?_)
              have hP : va_P (dC, dI) vwCl (mw cA cZ gm ak ac ab al av ah ap fk fc (upd z.2 ((i * 12) + j) (fv (fc ((i * 12) + j)).toNatClampNeg)) fl (upd z.1 (i * 13 + (j + 1)) (nI 0)) fv fv (nI rn) (nI cn) sc) H := hP
              have hD : va_D A (mw cA cZ gm ak ac ab al av ah ap fk fc (upd z.2 ((i * 12) + j) (fv (fc ((i * 12) + j)).toNatClampNeg)) fl (upd z.1 (i * 13 + (j + 1)) (nI 0)) fv fv (nI rn) (nI cn) sc) := hD
              refine lv_iinc (v := nI (i + 1)) (lv' := [(2, .int (nI (i + 1))), (3, .int (nI ((i * 12) + j))), (1, .int (nI j)), (0, .ref gm)]) hx hb dX1_scan_136 hl (k := 1) rfl (nI_1 _) (by decide) rfl (fun ls hl => ?_)
              refine lv_goto (tgt := 64) hx hb dX1_scan_139 (by decide) ?_
              exact ih (i + 1) (upd z.1 (i * 13 + (j + 1)) (nI 0), upd z.2 ((i * 12) + j) (fv (fc ((i * 12) + j)).toNatClampNeg)) (by omega) (g01_upd hz01 (by first | exact Or.inl rfl | exact Or.inr rfl)) (by show _ = gPs1 _ _ _ _ _ (gPs fk fc fv j q i); rw [← hz]; unfold gPs1; rw [if_pos hp, hg]) H locs hP hD hS ls (lv_sub hl [0, 2, 3] rfl)
            · skip
              refine lv_iload_n hx hb dX1_scan_64 rfl (lv_at hl 0 rfl) ?_
              refine lv_aload_n hx hb dX1_scan_65 rfl (lv_at hl 2 rfl) ?_
              refine va_get (D := (dC, dI)) (ci := 1) (v := .int (nI rn)) (C := RX1) (T := TX1) (N := 10) hx hb hts hin1 hown hK hP 0 rfl rfl 0 (by decide) lk36 (fun _ h9 => h9) rfl dX1_scan_66 ?_
              refine gz_icmp_ge (tgt := 142) (za := ((i : Nat) : Int)) (zb := ((rn : Nat) : Int)) hx hb dX1_scan_69 (by decide) (nI_toInt (by omega)) (nI_toInt (by omega)) (fun c_1 => False.elim (by omega)) (fun c_1 => ?_)
              refine lv_bipush (v := nI 12) hx hb dX1_scan_72 (by decide) ?_
              refine lv_iload_n hx hb dX1_scan_74 rfl (lv_at hl 0 rfl) ?_
              refine gz_imulc (i := 12) (j := i) hx hb dX1_scan_75 ?_
              refine lv_iload_n hx hb dX1_scan_76 rfl (lv_at hl 1 rfl) ?_
              refine gz_iadd (i := i * 12) (j := j) hx hb dX1_scan_77 ?_
              refine lv_istore_n (lv' := [(3, .int (nI ((i * 12) + j))), (2, .int (nI i)), (1, .int (nI j)), (0, .ref gm)]) hx hb dX1_scan_78 rfl hl (by decide) rfl (fun ls hl => ?_)
              refine lv_aload_n hx hb dX1_scan_79 rfl (lv_at hl 3 rfl) ?_
              refine va_get (D := (dC, dI)) (ci := 1) (v := .ref ap) (C := RX1) (T := TX1) (N := 10) hx hb hts hin1 hown hK hP 0 rfl rfl 8 (by decide) lk29 (fun _ h9 => h9) rfl dX1_scan_80 ?_
              refine lv_bipush (v := nI 13) hx hb dX1_scan_83 (by decide) ?_
              refine lv_iload_n hx hb dX1_scan_85 rfl (lv_at hl 1 rfl) ?_
              refine gz_imulc (i := 13) (j := i) hx hb dX1_scan_86 ?_
              refine lv_iload_n hx hb dX1_scan_87 rfl (lv_at hl 2 rfl) ?_
              refine gz_iadd (i := i * 13) (j := j) hx hb dX1_scan_88 ?_
              refine lv_iconst (v := nI 1) hx hb dX1_scan_89 (by decide) ?_
              refine gz_iadd (i := (i * 13) + j) (j := 1) hx hb dX1_scan_90 ?_
              refine gz_top (j := i * 13 + (j + 1)) (by omega) ?_
              refine lv_aload_n hx hb dX1_scan_91 rfl (lv_at hl 3 rfl) ?_
              refine va_get (D := (dC, dI)) (ci := 1) (v := .ref ap) (C := RX1) (T := TX1) (N := 10) hx hb hts hin1 hown hK hP 0 rfl rfl 8 (by decide) lk29 (fun _ h9 => h9) rfl dX1_scan_92 ?_
              refine lv_bipush (v := nI 13) hx hb dX1_scan_95 (by decide) ?_
              refine lv_iload_n hx hb dX1_scan_97 rfl (lv_at hl 1 rfl) ?_
              refine gz_imulc (i := 13) (j := i) hx hb dX1_scan_98 ?_
              refine lv_iload_n hx hb dX1_scan_99 rfl (lv_at hl 2 rfl) ?_
              refine gz_iadd (i := i * 13) (j := j) hx hb dX1_scan_100 ?_
              refine gz_zald (k := (i * 13) + j) hx hb hK hP 7 1 rfl rfl (by omega) (by omega) dX1_scan_101 ?_
              refine lv_if_eq (tgt := 117) hx hb dX1_scan_102 (by decide) (fun c_2 => False.elim (absurd (hp.symm.trans c_2) (by decide))) (fun c_2 => ?_)
              refine lv_aload_n hx hb dX1_scan_105 rfl (lv_at hl 3 rfl) ?_
              refine lv_iload_n hx hb dX1_scan_106 rfl (lv_at hl 0 rfl) ?_
              refine gz_callR (W.runV (As := [.int (nI ((i * 12) + j))]) (rest := [.int (nI (i * 13 + (j + 1))), .ref ap]) ⟨hx, hb, hml, hown, hts⟩ (cM_lets l dC dI cA cZ gm ak ac ab al av ah ap fk fc z.2 fl z.1 fv fv rn cn sc ((i * 12) + j) hrn hcn (by omega) hcI) (cwV 1 hts gX1_scan_X1_lets rfl rfl rfl (by decide +kernel) ⟨Nat.le_of_ble_eq_true rfl, Nat.le_of_ble_eq_true rfl⟩) (gz_preV (q := (RX1, TX1, 10)) (ci := 1) hK hP [0, 1, 2, 3, 4, 5, 6, 7] rfl rfl rfl) rfl rfl hl.1 rfl (lv_room (Nat.le_of_ble_eq_true rfl)) dX1_scan_107 ⟨Nat.le_of_ble_eq_true rfl, Nat.le_of_ble_eq_true rfl⟩) ?_
              refine lv_if_eq (tgt := 117) hx hb dX1_scan_110 (by decide) (fun c_3 => False.elim (absurd (hg.symm.trans c_3) (by decide))) (fun c_3 => ?_)
              refine lv_iconst (v := nI 1) hx hb dX1_scan_113 (by decide) ?_
              refine lv_goto (tgt := 118) hx hb dX1_scan_114 (by decide) ?_
              refine gz_zast (k := i * 13 + (j + 1)) hx hb hK hP hD hS 7 1 rfl rfl gz_nar1 (by omega) (by omega) dX1_scan_118 (fun H locs hP hD hS => ?_)
              have hP : va_P (dC, dI) vwCl (mw cA cZ gm ak ac ab al av ah ap fk fc z.2 fl (upd z.1 (i * 13 + (j + 1)) (nI 1)) fv fv (nI rn) (nI cn) sc) H := hP
              have hD : va_D A (mw cA cZ gm ak ac ab al av ah ap fk fc z.2 fl (upd z.1 (i * 13 + (j + 1)) (nI 1)) fv fv (nI rn) (nI cn) sc) := hD
              refine lv_aload_n hx hb dX1_scan_119 rfl (lv_at hl 3 rfl) ?_
              refine va_get (D := (dC, dI)) (ci := 1) (v := .ref ab) (C := RX1) (T := TX1) (N := 10) hx hb hts hin1 hown hK hP 0 rfl rfl 4 (by decide) lk16 (fun _ h9 => h9) rfl dX1_scan_120 ?_
              refine lv_iload_n hx hb dX1_scan_123 rfl (lv_at hl 0 rfl) ?_
              refine lv_aload_n hx hb dX1_scan_124 rfl (lv_at hl 3 rfl) ?_
              refine va_get (D := (dC, dI)) (ci := 1) (v := .ref ah) (C := RX1) (T := TX1) (N := 10) hx hb hts hin1 hown hK hP 0 rfl rfl 7 (by decide) lk26 (fun _ h9 => h9) rfl dX1_scan_125 ?_
              refine lv_aload_n hx hb dX1_scan_128 rfl (lv_at hl 3 rfl) ?_
              refine va_get (D := (dC, dI)) (ci := 1) (v := .ref ac) (C := RX1) (T := TX1) (N := 10) hx hb hts hin1 hown hK hP 0 rfl rfl 3 (by decide) lk13 (fun _ h9 => h9) rfl dX1_scan_129 ?_
              refine lv_iload_n hx hb dX1_scan_132 rfl (lv_at hl 0 rfl) ?_
              refine gz_iald (k := (i * 12) + j) hx hb hK hP 2 0 rfl rfl (by omega) (by omega) dX1_scan_133 ?_
              refine va_iald hx hb hK hP 6 0 rfl rfl hci dX1_scan_134 ?_
              refine gz_iast (k := (i * 12) + j) hx hb hK hP hD hS 3 0 rfl rfl (by omega) (by omega) dX1_scan_135 (fun H locs hP hD hS => ?_)
              have hP : va_P (dC, dI) vwCl (mw cA cZ gm ak ac ab al av ah ap fk fc (upd z.2 ((i * 12) + j) (fv (fc ((i * 12) + j)).toNatClampNeg)) fl (upd z.1 (i * 13 + (j + 1)) (nI 1)) fv fv (nI rn) (nI cn) sc) H := hP
              have hD : va_D A (mw cA cZ gm ak ac ab al av ah ap fk fc (upd z.2 ((i * 12) + j) (fv (fc ((i * 12) + j)).toNatClampNeg)) fl (upd z.1 (i * 13 + (j + 1)) (nI 1)) fv fv (nI rn) (nI cn) sc) := hD
              refine lv_iinc (v := nI (i + 1)) (lv' := [(2, .int (nI (i + 1))), (3, .int (nI ((i * 12) + j))), (1, .int (nI j)), (0, .ref gm)]) hx hb dX1_scan_136 hl (k := 1) rfl (nI_1 _) (by decide) rfl (fun ls hl => ?_)
              refine lv_goto (tgt := 64) hx hb dX1_scan_139 (by decide) ?_
              exact ih (i + 1) (upd z.1 (i * 13 + (j + 1)) (nI 1), upd z.2 ((i * 12) + j) (fv (fc ((i * 12) + j)).toNatClampNeg)) (by omega) (g01_upd hz01 (by first | exact Or.inl rfl | exact Or.inr rfl)) (by show _ = gPs1 _ _ _ _ _ (gPs fk fc fv j q i); rw [← hz]; unfold gPs1; rw [if_pos hp, hg]) H locs hP hD hS ls (lv_sub hl [0, 2, 3] rfl)
      refine lv_iload_n hx hb dX1_scan_54 rfl (lv_at hl 0 rfl) ?_
      refine lv_aload_n hx hb dX1_scan_55 rfl (lv_at hl 1 rfl) ?_
      refine va_get (D := (dC, dI)) (ci := 1) (v := .int (nI cn)) (C := RX1) (T := TX1) (N := 10) hx hb hts hin1 hown hK hP 0 rfl rfl 1 (by decide) lk40 (fun _ h9 => h9) rfl dX1_scan_56 ?_
      refine gz_icmp_ge (tgt := 165) (za := ((j : Nat) : Int)) (zb := ((cn : Nat) : Int)) hx hb dX1_scan_59 (by decide) (nI_toInt (by omega)) (nI_toInt (by omega)) (fun c_1 => False.elim (by omega)) (fun c_1 => ?_)
      refine lv_iconst (v := nI 0) hx hb dX1_scan_62 (by decide) ?_
      refine lv_istore_n (lv' := [(2, .int (nI 0)), (1, .int (nI j)), (0, .ref gm)]) hx hb dX1_scan_63 rfl hl (by decide) rfl (fun ls hl => ?_)
      exact inner rn 0 q (by omega) hq01 rfl H locs hP hD hS ls (lv_sub hl [0, 1, 2] rfl)
  have loop2 : ∀ (n : Nat) (i : Nat), i + n = rn → ∀ (H : Heap) (locs : List Loc), va_P (dC, dI) vwCl (mw cA cZ gm ak ac ab al av ah ap fk fc fs fl (gP0 fp i) fv fv (nI rn) (nI cn) sc) H → va_D A (mw cA cZ gm ak ac ab al av ah ap fk fc fs fl (gP0 fp i) fv fv (nI rn) (nI cn) sc) → va_S A s.heap H locs → ∀ (ls : Array Slot), lv_has ls 4 [(1, .int (nI i)), (0, .ref gm)] → W p l e (headSpec wsX1_scan ({ frames := 1, cells := 0, slots := 0, locals := 26 })).room s m ([.ref gm] : List Value).toArray below meth c H locs 0 0 (MQ below (gQA (dC, dI) vwCl [(cA, .int), (cZ, .boolean)] ((gCo fk fc (gCols fk fc fl fv rn (gP0 fp rn, fs) cn).1 cn (fv, nI 0) rn).2) A (mw cA cZ gm ak ac ab al av ah ap fk fc ((gCols fk fc fl fv rn (gP0 fp rn, fs) cn).2) fl ((gCols fk fc fl fv rn (gP0 fp rn, fs) cn).1) ((gCo fk fc (gCols fk fc fl fv rn (gP0 fp rn, fs) cn).1 cn (fv, nI 0) rn).1) fv (nI rn) (nI cn) (nI 1))) ([.ref gm] : List Value).toArray s 0 0 A) (F0 m 28 ls []) := by
    intro n
    induction n with
    | zero =>
      intro i hi H locs hP hD hS ls hl
      refine lv_iload_n hx hb dX1_scan_28 rfl (lv_at hl 0 rfl) ?_
      refine lv_aload_n hx hb dX1_scan_29 rfl (lv_at hl 1 rfl) ?_
      refine va_get (D := (dC, dI)) (ci := 1) (v := .int (nI rn)) (C := RX1) (T := TX1) (N := 10) hx hb hts hin1 hown hK hP 0 rfl rfl 0 (by decide) lk36 (fun _ h9 => h9) rfl dX1_scan_30 ?_
      refine gz_icmp_ge (tgt := 52) (za := ((i : Nat) : Int)) (zb := ((rn : Nat) : Int)) hx hb dX1_scan_33 (by decide) (nI_toInt (by omega)) (nI_toInt (by omega)) (fun c_1 => ?_) (fun c_1 => False.elim (by omega))
      refine lv_iconst (v := nI 0) hx hb dX1_scan_52 (by decide) ?_
      refine lv_istore_n (lv' := [(1, .int (nI 0)), (0, .ref gm)]) hx hb dX1_scan_53 rfl hl (by decide) rfl (fun ls hl => ?_)
      exact loop3 cn 0 (gP0 fp rn, fs) (by omega) (gP0_01 hfp rn) rfl H locs (by rw [show i = rn by omega] at hP; exact hP) (by rw [show i = rn by omega] at hD; exact hD) hS ls (lv_sub hl [0, 1] rfl)
    | succ n ih =>
      intro i hi H locs hP hD hS ls hl
      refine lv_iload_n hx hb dX1_scan_28 rfl (lv_at hl 0 rfl) ?_
      refine lv_aload_n hx hb dX1_scan_29 rfl (lv_at hl 1 rfl) ?_
      refine va_get (D := (dC, dI)) (ci := 1) (v := .int (nI rn)) (C := RX1) (T := TX1) (N := 10) hx hb hts hin1 hown hK hP 0 rfl rfl 0 (by decide) lk36 (fun _ h9 => h9) rfl dX1_scan_30 ?_
      refine gz_icmp_ge (tgt := 52) (za := ((i : Nat) : Int)) (zb := ((rn : Nat) : Int)) hx hb dX1_scan_33 (by decide) (nI_toInt (by omega)) (nI_toInt (by omega)) (fun c_1 => False.elim (by omega)) (fun c_1 => ?_)
      refine lv_aload_n hx hb dX1_scan_36 rfl (lv_at hl 1 rfl) ?_
      refine va_get (D := (dC, dI)) (ci := 1) (v := .ref ap) (C := RX1) (T := TX1) (N := 10) hx hb hts hin1 hown hK hP 0 rfl rfl 8 (by decide) lk29 (fun _ h9 => h9) rfl dX1_scan_37 ?_
      refine lv_bipush (v := nI 13) hx hb dX1_scan_40 (by decide) ?_
      refine lv_iload_n hx hb dX1_scan_42 rfl (lv_at hl 0 rfl) ?_
      refine gz_imulc (i := 13) (j := i) hx hb dX1_scan_43 ?_
      refine lv_iconst (v := nI 1) hx hb dX1_scan_44 (by decide) ?_
      refine gz_zast (k := i * 13) hx hb hK hP hD hS 7 1 rfl rfl gz_nar1 (by omega) (by omega) dX1_scan_45 (fun H locs hP hD hS => ?_)
      have hP : va_P (dC, dI) vwCl (mw cA cZ gm ak ac ab al av ah ap fk fc fs fl (upd (gP0 fp i) (i * 13) (nI 1)) fv fv (nI rn) (nI cn) sc) H := hP
      have hD : va_D A (mw cA cZ gm ak ac ab al av ah ap fk fc fs fl (upd (gP0 fp i) (i * 13) (nI 1)) fv fv (nI rn) (nI cn) sc) := hD
      refine lv_iinc (v := nI (i + 1)) (lv' := [(1, .int (nI (i + 1))), (0, .ref gm)]) hx hb dX1_scan_46 hl (k := 0) rfl (nI_1 _) (by decide) rfl (fun ls hl => ?_)
      refine lv_goto (tgt := 28) hx hb dX1_scan_49 (by decide) ?_
      exact ih (i + 1) (by omega) H locs hP hD hS ls (lv_sub hl [0, 1] rfl)
  have loop1 : ∀ (n : Nat) (k : Nat), k + n = 40 → ∀ (H : Heap) (locs : List Loc), va_P (dC, dI) vwCl (mw cA cZ gm ak ac ab al av ah ap fk fc fs fl fp fv (gCopy ft fv k) (nI rn) (nI cn) sc) H → va_D A (mw cA cZ gm ak ac ab al av ah ap fk fc fs fl fp fv (gCopy ft fv k) (nI rn) (nI cn) sc) → va_S A s.heap H locs → ∀ (ls : Array Slot), lv_has ls 4 [(1, .int (nI k)), (0, .ref gm)] → W p l e (headSpec wsX1_scan ({ frames := 1, cells := 0, slots := 0, locals := 26 })).room s m ([.ref gm] : List Value).toArray below meth c H locs 0 0 (MQ below (gQA (dC, dI) vwCl [(cA, .int), (cZ, .boolean)] ((gCo fk fc (gCols fk fc fl fv rn (gP0 fp rn, fs) cn).1 cn (fv, nI 0) rn).2) A (mw cA cZ gm ak ac ab al av ah ap fk fc ((gCols fk fc fl fv rn (gP0 fp rn, fs) cn).2) fl ((gCols fk fc fl fv rn (gP0 fp rn, fs) cn).1) ((gCo fk fc (gCols fk fc fl fv rn (gP0 fp rn, fs) cn).1 cn (fv, nI 0) rn).1) fv (nI rn) (nI cn) (nI 1))) ([.ref gm] : List Value).toArray s 0 0 A) (F0 m 2 ls []) := by
    intro n
    induction n with
    | zero =>
      intro k hk H locs hP hD hS ls hl
      refine lv_iload_n hx hb dX1_scan_2 rfl (lv_at hl 0 rfl) ?_
      refine lv_bipush (v := nI 40) hx hb dX1_scan_3 (by decide) ?_
      refine gz_icmp_ge (tgt := 26) (za := ((k : Nat) : Int)) (zb := ((40 : Nat) : Int)) hx hb dX1_scan_5 (by decide) (nI_toInt (by omega)) (nI_toInt (by omega)) (fun c_1 => ?_) (fun c_1 => False.elim (by omega))
      have hP : va_P (dC, dI) vwCl (mw cA cZ gm ak ac ab al av ah ap fk fc fs fl fp fv fv (nI rn) (nI cn) sc) H := gz_setext hP 6 rfl (fun j hj => gCopy_in ft fv k j (by omega))
      have hD : va_D A (mw cA cZ gm ak ac ab al av ah ap fk fc fs fl fp fv fv (nI rn) (nI cn) sc) := va_D.set (p := 6) hD rfl
      refine lv_iconst (v := nI 0) hx hb dX1_scan_26 (by decide) ?_
      refine lv_istore_n (lv' := [(1, .int (nI 0)), (0, .ref gm)]) hx hb dX1_scan_27 rfl hl (by decide) rfl (fun ls hl => ?_)
      exact loop2 rn 0 (by omega) H locs hP hD hS ls (lv_sub hl [0, 1] rfl)
    | succ n ih =>
      intro k hk H locs hP hD hS ls hl
      refine lv_iload_n hx hb dX1_scan_2 rfl (lv_at hl 0 rfl) ?_
      refine lv_bipush (v := nI 40) hx hb dX1_scan_3 (by decide) ?_
      refine gz_icmp_ge (tgt := 26) (za := ((k : Nat) : Int)) (zb := ((40 : Nat) : Int)) hx hb dX1_scan_5 (by decide) (nI_toInt (by omega)) (nI_toInt (by omega)) (fun c_1 => False.elim (by omega)) (fun c_1 => ?_)
      refine lv_aload_n hx hb dX1_scan_8 rfl (lv_at hl 1 rfl) ?_
      refine va_get (D := (dC, dI)) (ci := 1) (v := .ref ah) (C := RX1) (T := TX1) (N := 10) hx hb hts hin1 hown hK hP 0 rfl rfl 7 (by decide) lk26 (fun _ h9 => h9) rfl dX1_scan_9 ?_
      refine lv_iload_n hx hb dX1_scan_12 rfl (lv_at hl 0 rfl) ?_
      refine lv_aload_n hx hb dX1_scan_13 rfl (lv_at hl 1 rfl) ?_
      refine va_get (D := (dC, dI)) (ci := 1) (v := .ref av) (C := RX1) (T := TX1) (N := 10) hx hb hts hin1 hown hK hP 0 rfl rfl 6 (by decide) lk23 (fun _ h9 => h9) rfl dX1_scan_14 ?_
      refine lv_iload_n hx hb dX1_scan_17 rfl (lv_at hl 0 rfl) ?_
      refine gz_iald (k := k) hx hb hK hP 5 0 rfl rfl (by omega) (by omega) dX1_scan_18 ?_
      refine gz_iast (k := k) hx hb hK hP hD hS 6 0 rfl rfl (by omega) (by omega) dX1_scan_19 (fun H locs hP hD hS => ?_)
      have hP : va_P (dC, dI) vwCl (mw cA cZ gm ak ac ab al av ah ap fk fc fs fl fp fv (upd (gCopy ft fv k) k (fv k)) (nI rn) (nI cn) sc) H := hP
      have hD : va_D A (mw cA cZ gm ak ac ab al av ah ap fk fc fs fl fp fv (upd (gCopy ft fv k) k (fv k)) (nI rn) (nI cn) sc) := hD
      refine lv_iinc (v := nI (k + 1)) (lv' := [(1, .int (nI (k + 1))), (0, .ref gm)]) hx hb dX1_scan_20 hl (k := 0) rfl (nI_1 _) (by decide) rfl (fun ls hl => ?_)
      refine lv_goto (tgt := 2) hx hb dX1_scan_23 (by decide) ?_
      exact ih (k + 1) (by omega) H locs hP hD hS ls (lv_sub hl [0, 1] rfl)
  refine lv_iconst (v := nI 0) hx hb dX1_scan_0 (by decide) ?_
  refine lv_istore_n (lv' := [(1, .int (nI 0)), (0, .ref gm)]) hx hb dX1_scan_1 rfl hl (by decide) rfl (fun ls hl => ?_)
  exact loop1 40 0 (by omega) H locs hP hD hS ls (lv_sub hl [0, 1] rfl)
end
