/-! ===== BEGIN words of one list among another's, by their places ===== -/
theorem goodIn_r {big : List Cond} (ws : List Cond) (ps : List Nat) (hp : ws = ps.filterMap (fun i => big[i]?)) (h : ws.all goodWord = true) : GoodIn big ws := by
  intro w hw
  have h1 := List.all_eq_true.mp h w hw
  rw [hp] at hw
  obtain ⟨i, -, hi⟩ := List.mem_filterMap.mp hw
  have hm : w ∈ big := by first | exact List.mem_of_getElem? hi | exact List.getElem?_mem hi
  exact ⟨hm, good_of_word h1⟩
theorem goodIn_app {big a b : List Cond} (ha : GoodIn big a) (hb : GoodIn big b) : GoodIn big (a ++ b) := fun w h => (List.mem_append.mp h).elim (ha w) (hb w)
theorem goodIn_ca {big a b : List Cond} {c : Cond} (ha : GoodIn big (c :: a)) (hb : GoodIn big b) : GoodIn big (c :: (a ++ b)) := fun w h => (List.mem_cons.mp h).elim (fun e => ha w (List.mem_cons.mpr (Or.inl e))) (fun h => (List.mem_append.mp h).elim (fun h => ha w (List.mem_cons.mpr (Or.inr h))) (hb w))
theorem goodIn_sub {big ws : List Cond} (hm : ∀ w ∈ ws, w ∈ big) (h : ws.all goodWord = true) : GoodIn big ws := fun w hw => ⟨hm w hw, good_of_word (List.all_eq_true.mp h w hw)⟩
/-! ===== END ===== -/

/-! ===== BEGIN printed: names, fields, word lists, decode rows ===== -/
def RX0 : String := "LadderGrid"
def TX0 : u_T := fun k => match k with
  | 0 => ("LadderGrid", "kinds", "[I", true)
  | 1 => ("LadderGrid", "cellVariables", "[I", true)
  | 2 => ("LadderGrid", "seen", "[I", true)
  | 3 => ("LadderGrid", "links", "[I", true)
  | 4 => ("LadderGrid", "powered", "[I", true)
  | 5 => ("LadderGrid", "values", "[I", true)
  | 6 => ("LadderGrid", "rows", "I", false)
  | 7 => ("LadderGrid", "columns", "I", false)
  | _ => ("LadderGrid", "scanned", "Z", false)
def tyX0 : Nat → FieldType := fun k => match k with
  | 0 => .array .int
  | 1 => .array .int
  | 2 => .array .int
  | 3 => .array .int
  | 4 => .array .int
  | 5 => .array .int
  | 6 => .int
  | 7 => .int
  | _ => .boolean
abbrev wsX00 : List Cond := u_ws RX0 TX0 9
theorem nmX0 : ∀ a, a < 9 → ∀ b, b < 9 → a ≠ b → (TX0 a).2.1 ≠ (TX0 b).2.1 := by decide +kernel
theorem tyX0_ok : ∀ k, k < 9 → parseFieldDescriptor (TX0 k).2.2.1 = some (tyX0 k) := by decide +kernel
abbrev cX0_init : ByteArray := prog_1_method_1_code
def yX0_init : MethodName := ⟨RX0, "<init>", "()V"⟩
abbrev cX0_begin : ByteArray := prog_1_method_2_code
def yX0_begin : MethodName := ⟨RX0, "begin", "(II)I"⟩
abbrev cX0_cell : ByteArray := prog_1_method_3_code
def yX0_cell : MethodName := ⟨RX0, "cell", "(IIII)I"⟩
abbrev cX0_link : ByteArray := prog_1_method_4_code
def yX0_link : MethodName := ⟨RX0, "link", "(IIZ)I"⟩
abbrev cX0_set : ByteArray := prog_1_method_5_code
def yX0_set : MethodName := ⟨RX0, "set", "(II)I"⟩
abbrev cX0_get : ByteArray := prog_1_method_6_code
def yX0_get : MethodName := ⟨RX0, "get", "(I)I"⟩
abbrev cX0_scan : ByteArray := prog_1_method_7_code
def yX0_scan : MethodName := ⟨RX0, "scan", "()I"⟩
abbrev cX0_power : ByteArray := prog_1_method_8_code
def yX0_power : MethodName := ⟨RX0, "power", "(II)I"⟩
abbrev cX0_steps : ByteArray := prog_1_method_9_code
def yX0_steps : MethodName := ⟨RX0, "steps", "()I"⟩
abbrev cX0_groups : ByteArray := prog_1_method_10_code
def yX0_groups : MethodName := ⟨RX0, "groups", "(I)I"⟩
abbrev cX0_passColumn : ByteArray := prog_1_method_11_code
def yX0_passColumn : MethodName := ⟨RX0, "passColumn", "(I)V"⟩
abbrev cX0_shareAlongLinks : ByteArray := prog_1_method_12_code
def yX0_shareAlongLinks : MethodName := ⟨RX0, "shareAlongLinks", "(I)V"⟩
abbrev cX0_driveCoils : ByteArray := prog_1_method_13_code
def yX0_driveCoils : MethodName := ⟨RX0, "driveCoils", "()I"⟩
abbrev cX0_lineSteps : ByteArray := prog_1_method_14_code
def yX0_lineSteps : MethodName := ⟨RX0, "lineSteps", "(I)I"⟩
abbrev cX0_coilSteps : ByteArray := prog_1_method_15_code
def yX0_coilSteps : MethodName := ⟨RX0, "coilSteps", "()I"⟩
abbrev cX0_isRow : ByteArray := prog_1_method_16_code
def yX0_isRow : MethodName := ⟨RX0, "isRow", "(I)Z"⟩
abbrev cX0_isLine : ByteArray := prog_1_method_17_code
def yX0_isLine : MethodName := ⟨RX0, "isLine", "(I)Z"⟩
abbrev cX0_joiningSteps : ByteArray := prog_1_method_18_code
def yX0_joiningSteps : MethodName := ⟨RX0, "joiningSteps", "(I)I"⟩
abbrev cX0_letsThrough : ByteArray := prog_1_method_19_code
def yX0_letsThrough : MethodName := ⟨RX0, "letsThrough", "(III)Z"⟩
abbrev cX0_coilValue : ByteArray := prog_1_method_20_code
def yX0_coilValue : MethodName := ⟨RX0, "coilValue", "(III)I"⟩
abbrev cX0_isVariable : ByteArray := prog_1_method_21_code
def yX0_isVariable : MethodName := ⟨RX0, "isVariable", "(I)Z"⟩
abbrev cX0_hasVariable : ByteArray := prog_1_method_22_code
def yX0_hasVariable : MethodName := ⟨RX0, "hasVariable", "(I)Z"⟩
abbrev cX0_isCoil : ByteArray := prog_1_method_23_code
def yX0_isCoil : MethodName := ⟨RX0, "isCoil", "(I)Z"⟩
abbrev cX0_cellAt : ByteArray := prog_1_method_24_code
def yX0_cellAt : MethodName := ⟨RX0, "cellAt", "(II)I"⟩
abbrev cX0_pointAt : ByteArray := prog_1_method_25_code
def yX0_pointAt : MethodName := ⟨RX0, "pointAt", "(II)I"⟩
def RX1 : String := "LadderGridModel"
def TX1 : u_T := fun k => match k with
  | 0 => ("LadderGridModel", "rows", "I", false)
  | 1 => ("LadderGridModel", "columns", "I", false)
  | 2 => ("LadderGridModel", "kinds", "[I", true)
  | 3 => ("LadderGridModel", "variables", "[I", true)
  | 4 => ("LadderGridModel", "before", "[I", true)
  | 5 => ("LadderGridModel", "isLinked", "[Z", true)
  | 6 => ("LadderGridModel", "values", "[I", true)
  | 7 => ("LadderGridModel", "then", "[I", true)
  | 8 => ("LadderGridModel", "hasPower", "[Z", true)
  | _ => ("LadderGridModel", "isScanned", "Z", false)
def tyX1 : Nat → FieldType := fun k => match k with
  | 0 => .int
  | 1 => .int
  | 2 => .array .int
  | 3 => .array .int
  | 4 => .array .int
  | 5 => .array .boolean
  | 6 => .array .int
  | 7 => .array .int
  | 8 => .array .boolean
  | _ => .boolean
abbrev wsX10 : List Cond := u_ws RX1 TX1 10
theorem nmX1 : ∀ a, a < 10 → ∀ b, b < 10 → a ≠ b → (TX1 a).2.1 ≠ (TX1 b).2.1 := by decide +kernel
theorem tyX1_ok : ∀ k, k < 10 → parseFieldDescriptor (TX1 k).2.2.1 = some (tyX1 k) := by decide +kernel
abbrev cX1_init : ByteArray := prog_3_method_1_code
def yX1_init : MethodName := ⟨RX1, "<init>", "()V"⟩
abbrev cX1_isCell : ByteArray := prog_3_method_2_code
def yX1_isCell : MethodName := ⟨RX1, "isCell", "(II)Z"⟩
abbrev cX1_isVariable : ByteArray := prog_3_method_3_code
def yX1_isVariable : MethodName := ⟨RX1, "isVariable", "(I)Z"⟩
abbrev cX1_begin : ByteArray := prog_3_method_4_code
def yX1_begin : MethodName := ⟨RX1, "begin", "(II)I"⟩
abbrev cX1_cell : ByteArray := prog_3_method_5_code
def yX1_cell : MethodName := ⟨RX1, "cell", "(IIII)I"⟩
abbrev cX1_link : ByteArray := prog_3_method_6_code
def yX1_link : MethodName := ⟨RX1, "link", "(IIZ)I"⟩
abbrev cX1_set : ByteArray := prog_3_method_7_code
def yX1_set : MethodName := ⟨RX1, "set", "(II)I"⟩
abbrev cX1_get : ByteArray := prog_3_method_8_code
def yX1_get : MethodName := ⟨RX1, "get", "(I)I"⟩
abbrev cX1_lets : ByteArray := prog_3_method_9_code
def yX1_lets : MethodName := ⟨RX1, "lets", "(I)Z"⟩
abbrev cX1_spread : ByteArray := prog_3_method_10_code
def yX1_spread : MethodName := ⟨RX1, "spread", "(I)V"⟩
abbrev cX1_coils : ByteArray := prog_3_method_11_code
def yX1_coils : MethodName := ⟨RX1, "coils", "()I"⟩
abbrev cX1_scan : ByteArray := prog_3_method_12_code
def yX1_scan : MethodName := ⟨RX1, "scan", "()I"⟩
abbrev cX1_power : ByteArray := prog_3_method_13_code
def yX1_power : MethodName := ⟨RX1, "power", "(II)I"⟩
abbrev cX1_term : ByteArray := prog_3_method_14_code
def yX1_term : MethodName := ⟨RX1, "term", "(I)I"⟩
abbrev cX1_lineSteps : ByteArray := prog_3_method_15_code
def yX1_lineSteps : MethodName := ⟨RX1, "lineSteps", "(I)I"⟩
abbrev cX1_steps : ByteArray := prog_3_method_16_code
def yX1_steps : MethodName := ⟨RX1, "steps", "()I"⟩
abbrev cX1_groups : ByteArray := prog_3_method_17_code
def yX1_groups : MethodName := ⟨RX1, "groups", "(I)I"⟩
def RJ7 : String := "java/util/Arrays"
def TJ7 : u_T := fun k => match k with
  | _ => ("", "", "", false)
def tyJ7 : Nat → FieldType := fun k => match k with
  | _ => .int
abbrev wsJ70 : List Cond := u_ws RJ7 TJ7 0
theorem nmJ7 : ∀ a, a < 0 → ∀ b, b < 0 → a ≠ b → (TJ7 a).2.1 ≠ (TJ7 b).2.1 := by decide +kernel
theorem tyJ7_ok : ∀ k, k < 0 → parseFieldDescriptor (TJ7 k).2.2.1 = some (tyJ7 k) := by decide +kernel
abbrev cJ7_fill_53178 : ByteArray := prog_4_method_103_code
def yJ7_fill_53178 : MethodName := ⟨RJ7, "fill", "([II)V"⟩
def RL : String := "LadderGridLaw"
abbrev cL_law : ByteArray := code
def yL_law : MethodName := ⟨RL, "law", "([I)Z"⟩
def wsX0_init : List Cond := .code yX0_init cX0_init 1 none :: ([.methodLink RX0 3 objectInit, .instanceMethod objectInit, .code objectInit ⟨#[0xb1]⟩ 1 none, .arrayClass .int, .fieldLink RX0 9 "LadderGrid" "kinds" "[I", .fieldLink RX0 13 "LadderGrid" "cellVariables" "[I", .fieldLink RX0 16 "LadderGrid" "seen" "[I", .fieldLink RX0 19 "LadderGrid" "links" "[I", .fieldLink RX0 22 "LadderGrid" "powered" "[I", .fieldLink RX0 25 "LadderGrid" "values" "[I", .fieldLink RX0 28 "LadderGrid" "rows" "I", .fieldLink RX0 32 "LadderGrid" "columns" "I", .fieldLink RX0 35 "LadderGrid" "scanned" "Z"] ++ wsX00)
def wsJ7_fill_53178 : List Cond := .code yJ7_fill_53178 cJ7_fill_53178 4 none :: ([])
def wsX0_begin : List Cond := .code yX0_begin cX0_begin 3 (some .int) :: ([.fieldLink RX0 28 "LadderGrid" "rows" "I", .fieldLink RX0 32 "LadderGrid" "columns" "I", .fieldLink RX0 9 "LadderGrid" "kinds" "[I", .fieldLink RX0 13 "LadderGrid" "cellVariables" "[I", .fieldLink RX0 16 "LadderGrid" "seen" "[I", .fieldLink RX0 19 "LadderGrid" "links" "[I", .fieldLink RX0 35 "LadderGrid" "scanned" "Z", .methodLink RX0 39 yJ7_fill_53178, .static yJ7_fill_53178, .initialized RJ7, .code yJ7_fill_53178 cJ7_fill_53178 4 none] ++ wsX00)
def wsX0_isRow : List Cond := .code yX0_isRow cX0_isRow 2 (some .boolean) :: ([.fieldLink RX0 28 "LadderGrid" "rows" "I"] ++ wsX00)
def wsX0_hasVariable : List Cond := .code yX0_hasVariable cX0_hasVariable 1 (some .boolean) :: ([])
def wsX0_isVariable : List Cond := .code yX0_isVariable cX0_isVariable 1 (some .boolean) :: ([])
def wsX0_isCoil : List Cond := .code yX0_isCoil cX0_isCoil 1 (some .boolean) :: ([])
def wsX0_cellAt : List Cond := .code yX0_cellAt cX0_cellAt 2 (some .int) :: ([])
def wsX0_cell : List Cond := .code yX0_cell cX0_cell 7 (some .int) :: ([.fieldLink RX0 32 "LadderGrid" "columns" "I", .fieldLink RX0 9 "LadderGrid" "kinds" "[I", .fieldLink RX0 13 "LadderGrid" "cellVariables" "[I", .fieldLink RX0 16 "LadderGrid" "seen" "[I", .fieldLink RX0 35 "LadderGrid" "scanned" "Z", .methodLink RX0 45 yX0_isRow, .instanceMethod yX0_isRow, .selects RX0 yX0_isRow yX0_isRow, .initialized RX0, .code yX0_isRow cX0_isRow 2 (some .boolean), .fieldLink RX0 28 "LadderGrid" "rows" "I", .methodLink RX0 49 yX0_hasVariable, .static yX0_hasVariable, .code yX0_hasVariable cX0_hasVariable 1 (some .boolean), .methodLink RX0 52 yX0_isVariable, .static yX0_isVariable, .code yX0_isVariable cX0_isVariable 1 (some .boolean), .methodLink RX0 55 yX0_isCoil, .static yX0_isCoil, .code yX0_isCoil cX0_isCoil 1 (some .boolean), .methodLink RX0 58 yX0_cellAt, .static yX0_cellAt, .code yX0_cellAt cX0_cellAt 2 (some .int)] ++ wsX00)
def wsX0_pointAt : List Cond := .code yX0_pointAt cX0_pointAt 2 (some .int) :: ([])
def wsX0_link : List Cond := .code yX0_link cX0_link 6 (some .int) :: ([.fieldLink RX0 28 "LadderGrid" "rows" "I", .fieldLink RX0 32 "LadderGrid" "columns" "I", .fieldLink RX0 19 "LadderGrid" "links" "[I", .fieldLink RX0 35 "LadderGrid" "scanned" "Z", .methodLink RX0 62 yX0_pointAt, .static yX0_pointAt, .initialized RX0, .code yX0_pointAt cX0_pointAt 2 (some .int)] ++ wsX00)
def wsX0_set : List Cond := .code yX0_set cX0_set 4 (some .int) :: ([.fieldLink RX0 25 "LadderGrid" "values" "[I", .methodLink RX0 52 yX0_isVariable, .static yX0_isVariable, .initialized RX0, .code yX0_isVariable cX0_isVariable 1 (some .boolean)] ++ wsX00)
def wsX0_get : List Cond := .code yX0_get cX0_get 2 (some .int) :: ([.fieldLink RX0 25 "LadderGrid" "values" "[I", .methodLink RX0 52 yX0_isVariable, .static yX0_isVariable, .initialized RX0, .code yX0_isVariable cX0_isVariable 1 (some .boolean)] ++ wsX00)
def wsX0_letsThrough : List Cond := .code yX0_letsThrough cX0_letsThrough 3 (some .boolean) :: ([])
def wsX0_passColumn : List Cond := .code yX0_passColumn cX0_passColumn 6 none :: ([.fieldLink RX0 28 "LadderGrid" "rows" "I", .fieldLink RX0 25 "LadderGrid" "values" "[I", .fieldLink RX0 13 "LadderGrid" "cellVariables" "[I", .fieldLink RX0 22 "LadderGrid" "powered" "[I", .fieldLink RX0 9 "LadderGrid" "kinds" "[I", .fieldLink RX0 16 "LadderGrid" "seen" "[I", .methodLink RX0 58 yX0_cellAt, .static yX0_cellAt, .initialized RX0, .code yX0_cellAt cX0_cellAt 2 (some .int), .methodLink RX0 62 yX0_pointAt, .static yX0_pointAt, .code yX0_pointAt cX0_pointAt 2 (some .int), .methodLink RX0 86 yX0_letsThrough, .static yX0_letsThrough, .code yX0_letsThrough cX0_letsThrough 3 (some .boolean)] ++ wsX00)
def wsX0_shareAlongLinks : List Cond := .code yX0_shareAlongLinks cX0_shareAlongLinks 3 none :: ([.fieldLink RX0 28 "LadderGrid" "rows" "I", .fieldLink RX0 19 "LadderGrid" "links" "[I", .fieldLink RX0 22 "LadderGrid" "powered" "[I", .methodLink RX0 62 yX0_pointAt, .static yX0_pointAt, .initialized RX0, .code yX0_pointAt cX0_pointAt 2 (some .int)] ++ wsX00)
def wsX0_coilValue : List Cond := .code yX0_coilValue cX0_coilValue 3 (some .int) :: ([])
def wsX0_driveCoils : List Cond := .code yX0_driveCoils cX0_driveCoils 6 (some .int) :: ([.fieldLink RX0 28 "LadderGrid" "rows" "I", .fieldLink RX0 32 "LadderGrid" "columns" "I", .fieldLink RX0 9 "LadderGrid" "kinds" "[I", .fieldLink RX0 22 "LadderGrid" "powered" "[I", .fieldLink RX0 13 "LadderGrid" "cellVariables" "[I", .fieldLink RX0 25 "LadderGrid" "values" "[I", .methodLink RX0 58 yX0_cellAt, .static yX0_cellAt, .initialized RX0, .code yX0_cellAt cX0_cellAt 2 (some .int), .methodLink RX0 55 yX0_isCoil, .static yX0_isCoil, .code yX0_isCoil cX0_isCoil 1 (some .boolean), .methodLink RX0 62 yX0_pointAt, .static yX0_pointAt, .code yX0_pointAt cX0_pointAt 2 (some .int), .methodLink RX0 90 yX0_coilValue, .static yX0_coilValue, .code yX0_coilValue cX0_coilValue 3 (some .int)] ++ wsX00)
def wsX0_scan_r1 : List Cond := [Cond.fieldLink RX0 28 "LadderGrid" "rows" "I", Cond.fieldLink RX0 22 "LadderGrid" "powered" "[I", Cond.fieldLink RX0 32 "LadderGrid" "columns" "I", Cond.fieldLink RX0 35 "LadderGrid" "scanned" "Z", Cond.methodLink RX0 62 yX0_pointAt, Cond.static yX0_pointAt, Cond.initialized RX0, Cond.code yX0_pointAt cX0_pointAt 2 (some .int), Cond.methodLink RX0 65 yX0_passColumn, Cond.instanceMethod yX0_passColumn, Cond.selects RX0 yX0_passColumn yX0_passColumn, Cond.code yX0_passColumn cX0_passColumn 6 none, Cond.fieldLink RX0 25 "LadderGrid" "values" "[I", Cond.fieldLink RX0 13 "LadderGrid" "cellVariables" "[I", Cond.fieldLink RX0 9 "LadderGrid" "kinds" "[I", Cond.fieldLink RX0 16 "LadderGrid" "seen" "[I", Cond.methodLink RX0 58 yX0_cellAt, Cond.static yX0_cellAt, Cond.code yX0_cellAt cX0_cellAt 2 (some .int), Cond.methodLink RX0 86 yX0_letsThrough, Cond.static yX0_letsThrough, Cond.code yX0_letsThrough cX0_letsThrough 3 (some .boolean), Cond.methodLink RX0 69 yX0_shareAlongLinks, Cond.instanceMethod yX0_shareAlongLinks]
def wsX0_scan_r2 : List Cond := [Cond.selects RX0 yX0_shareAlongLinks yX0_shareAlongLinks, Cond.code yX0_shareAlongLinks cX0_shareAlongLinks 3 none, Cond.fieldLink RX0 19 "LadderGrid" "links" "[I", Cond.methodLink RX0 72 yX0_driveCoils, Cond.instanceMethod yX0_driveCoils, Cond.selects RX0 yX0_driveCoils yX0_driveCoils, Cond.code yX0_driveCoils cX0_driveCoils 6 (some .int), Cond.methodLink RX0 55 yX0_isCoil, Cond.static yX0_isCoil, Cond.code yX0_isCoil cX0_isCoil 1 (some .boolean), Cond.methodLink RX0 90 yX0_coilValue, Cond.static yX0_coilValue, Cond.code yX0_coilValue cX0_coilValue 3 (some .int)]
def wsX0_scan : List Cond := .code yX0_scan cX0_scan 2 (some .int) :: ((wsX0_scan_r1 ++ wsX0_scan_r2) ++ wsX00)
def wsX0_isLine : List Cond := .code yX0_isLine cX0_isLine 2 (some .boolean) :: ([.fieldLink RX0 32 "LadderGrid" "columns" "I"] ++ wsX00)
def wsX0_power : List Cond := .code yX0_power cX0_power 3 (some .int) :: ([.fieldLink RX0 35 "LadderGrid" "scanned" "Z", .fieldLink RX0 32 "LadderGrid" "columns" "I", .fieldLink RX0 9 "LadderGrid" "kinds" "[I", .fieldLink RX0 22 "LadderGrid" "powered" "[I", .methodLink RX0 45 yX0_isRow, .instanceMethod yX0_isRow, .selects RX0 yX0_isRow yX0_isRow, .initialized RX0, .code yX0_isRow cX0_isRow 2 (some .boolean), .fieldLink RX0 28 "LadderGrid" "rows" "I", .methodLink RX0 76 yX0_isLine, .instanceMethod yX0_isLine, .selects RX0 yX0_isLine yX0_isLine, .code yX0_isLine cX0_isLine 2 (some .boolean), .methodLink RX0 58 yX0_cellAt, .static yX0_cellAt, .code yX0_cellAt cX0_cellAt 2 (some .int), .methodLink RX0 55 yX0_isCoil, .static yX0_isCoil, .code yX0_isCoil cX0_isCoil 1 (some .boolean), .methodLink RX0 62 yX0_pointAt, .static yX0_pointAt, .code yX0_pointAt cX0_pointAt 2 (some .int)] ++ wsX00)
def wsX0_joiningSteps : List Cond := .code yX0_joiningSteps cX0_joiningSteps 1 (some .int) :: ([])
def wsX0_lineSteps : List Cond := .code yX0_lineSteps cX0_lineSteps 7 (some .int) :: ([.fieldLink RX0 28 "LadderGrid" "rows" "I", .fieldLink RX0 9 "LadderGrid" "kinds" "[I", .fieldLink RX0 94 "LadderGrid" "KIND_STEPS" "[I", .fieldLink RX0 19 "LadderGrid" "links" "[I", .methodLink RX0 58 yX0_cellAt, .static yX0_cellAt, .initialized RX0, .code yX0_cellAt cX0_cellAt 2 (some .int), .methodLink RX0 55 yX0_isCoil, .static yX0_isCoil, .code yX0_isCoil cX0_isCoil 1 (some .boolean), .methodLink RX0 62 yX0_pointAt, .static yX0_pointAt, .code yX0_pointAt cX0_pointAt 2 (some .int), .methodLink RX0 97 yX0_joiningSteps, .static yX0_joiningSteps, .code yX0_joiningSteps cX0_joiningSteps 1 (some .int)] ++ wsX00)
def wsX0_coilSteps : List Cond := .code yX0_coilSteps cX0_coilSteps 4 (some .int) :: ([.fieldLink RX0 28 "LadderGrid" "rows" "I", .fieldLink RX0 9 "LadderGrid" "kinds" "[I", .fieldLink RX0 32 "LadderGrid" "columns" "I", .fieldLink RX0 94 "LadderGrid" "KIND_STEPS" "[I", .methodLink RX0 58 yX0_cellAt, .static yX0_cellAt, .initialized RX0, .code yX0_cellAt cX0_cellAt 2 (some .int), .methodLink RX0 55 yX0_isCoil, .static yX0_isCoil, .code yX0_isCoil cX0_isCoil 1 (some .boolean)] ++ wsX00)
def wsX0_steps_r1 : List Cond := [Cond.fieldLink RX0 32 "LadderGrid" "columns" "I", Cond.methodLink RX0 79 yX0_lineSteps, Cond.instanceMethod yX0_lineSteps, Cond.selects RX0 yX0_lineSteps yX0_lineSteps, Cond.initialized RX0, Cond.code yX0_lineSteps cX0_lineSteps 7 (some .int), Cond.fieldLink RX0 28 "LadderGrid" "rows" "I", Cond.fieldLink RX0 9 "LadderGrid" "kinds" "[I", Cond.fieldLink RX0 94 "LadderGrid" "KIND_STEPS" "[I", Cond.fieldLink RX0 19 "LadderGrid" "links" "[I", Cond.methodLink RX0 58 yX0_cellAt, Cond.static yX0_cellAt, Cond.code yX0_cellAt cX0_cellAt 2 (some .int), Cond.methodLink RX0 55 yX0_isCoil, Cond.static yX0_isCoil, Cond.code yX0_isCoil cX0_isCoil 1 (some .boolean), Cond.methodLink RX0 62 yX0_pointAt, Cond.static yX0_pointAt, Cond.code yX0_pointAt cX0_pointAt 2 (some .int), Cond.methodLink RX0 97 yX0_joiningSteps, Cond.static yX0_joiningSteps, Cond.code yX0_joiningSteps cX0_joiningSteps 1 (some .int), Cond.methodLink RX0 83 yX0_coilSteps, Cond.instanceMethod yX0_coilSteps]
def wsX0_steps_r2 : List Cond := [Cond.selects RX0 yX0_coilSteps yX0_coilSteps, Cond.code yX0_coilSteps cX0_coilSteps 4 (some .int)]
def wsX0_steps : List Cond := .code yX0_steps cX0_steps 3 (some .int) :: ((wsX0_steps_r1 ++ wsX0_steps_r2) ++ wsX00)
def wsX0_groups : List Cond := .code yX0_groups cX0_groups 4 (some .int) :: ([.fieldLink RX0 28 "LadderGrid" "rows" "I", .fieldLink RX0 19 "LadderGrid" "links" "[I", .methodLink RX0 76 yX0_isLine, .instanceMethod yX0_isLine, .selects RX0 yX0_isLine yX0_isLine, .initialized RX0, .code yX0_isLine cX0_isLine 2 (some .boolean), .fieldLink RX0 32 "LadderGrid" "columns" "I", .methodLink RX0 62 yX0_pointAt, .static yX0_pointAt, .code yX0_pointAt cX0_pointAt 2 (some .int)] ++ wsX00)
def wsX1_begin : List Cond := .code yX1_begin cX1_begin 4 (some .int) :: ([.fieldLink RX1 36 "LadderGridModel" "rows" "I", .fieldLink RX1 40 "LadderGridModel" "columns" "I", .fieldLink RX1 7 "LadderGridModel" "kinds" "[I", .fieldLink RX1 13 "LadderGridModel" "variables" "[I", .fieldLink RX1 16 "LadderGridModel" "before" "[I", .fieldLink RX1 19 "LadderGridModel" "isLinked" "[Z", .fieldLink RX1 43 "LadderGridModel" "isScanned" "Z"] ++ wsX10)
def wsX1_init : List Cond := .code yX1_init cX1_init 1 none :: ([.methodLink RX1 1 objectInit, .instanceMethod objectInit, .code objectInit ⟨#[0xb1]⟩ 1 none, .arrayClass .int, .fieldLink RX1 7 "LadderGridModel" "kinds" "[I", .fieldLink RX1 13 "LadderGridModel" "variables" "[I", .fieldLink RX1 16 "LadderGridModel" "before" "[I", .arrayClass .boolean, .fieldLink RX1 19 "LadderGridModel" "isLinked" "[Z", .fieldLink RX1 23 "LadderGridModel" "values" "[I", .fieldLink RX1 26 "LadderGridModel" "then" "[I", .fieldLink RX1 29 "LadderGridModel" "hasPower" "[Z", .methodLink RX1 32 yX1_begin, .instanceMethod yX1_begin, .selects RX1 yX1_begin yX1_begin, .initialized RX1, .code yX1_begin cX1_begin 4 (some .int), .fieldLink RX1 36 "LadderGridModel" "rows" "I", .fieldLink RX1 40 "LadderGridModel" "columns" "I", .fieldLink RX1 43 "LadderGridModel" "isScanned" "Z"] ++ wsX10)
def wsX1_isCell : List Cond := .code yX1_isCell cX1_isCell 3 (some .boolean) :: ([.fieldLink RX1 36 "LadderGridModel" "rows" "I", .fieldLink RX1 40 "LadderGridModel" "columns" "I"] ++ wsX10)
def wsX1_isVariable : List Cond := .code yX1_isVariable cX1_isVariable 1 (some .boolean) :: ([])
def wsX1_cell : List Cond := .code yX1_cell cX1_cell 7 (some .int) :: ([.fieldLink RX1 40 "LadderGridModel" "columns" "I", .fieldLink RX1 7 "LadderGridModel" "kinds" "[I", .fieldLink RX1 13 "LadderGridModel" "variables" "[I", .fieldLink RX1 16 "LadderGridModel" "before" "[I", .fieldLink RX1 43 "LadderGridModel" "isScanned" "Z", .methodLink RX1 47 yX1_isCell, .instanceMethod yX1_isCell, .selects RX1 yX1_isCell yX1_isCell, .initialized RX1, .code yX1_isCell cX1_isCell 3 (some .boolean), .fieldLink RX1 36 "LadderGridModel" "rows" "I", .methodLink RX1 51 yX1_isVariable, .static yX1_isVariable, .code yX1_isVariable cX1_isVariable 1 (some .boolean)] ++ wsX10)
def wsX1_link : List Cond := .code yX1_link cX1_link 6 (some .int) :: ([.fieldLink RX1 36 "LadderGridModel" "rows" "I", .fieldLink RX1 40 "LadderGridModel" "columns" "I", .fieldLink RX1 19 "LadderGridModel" "isLinked" "[Z", .fieldLink RX1 43 "LadderGridModel" "isScanned" "Z"] ++ wsX10)
def wsX1_set : List Cond := .code yX1_set cX1_set 4 (some .int) :: ([.fieldLink RX1 23 "LadderGridModel" "values" "[I", .methodLink RX1 51 yX1_isVariable, .static yX1_isVariable, .initialized RX1, .code yX1_isVariable cX1_isVariable 1 (some .boolean)] ++ wsX10)
def wsX1_get : List Cond := .code yX1_get cX1_get 2 (some .int) :: ([.fieldLink RX1 23 "LadderGridModel" "values" "[I", .methodLink RX1 51 yX1_isVariable, .static yX1_isVariable, .initialized RX1, .code yX1_isVariable cX1_isVariable 1 (some .boolean)] ++ wsX10)
def wsX1_lets : List Cond := .code yX1_lets cX1_lets 3 (some .boolean) :: ([.fieldLink RX1 26 "LadderGridModel" "then" "[I", .fieldLink RX1 13 "LadderGridModel" "variables" "[I", .fieldLink RX1 7 "LadderGridModel" "kinds" "[I", .fieldLink RX1 16 "LadderGridModel" "before" "[I"] ++ wsX10)
def wsX1_spread : List Cond := .code yX1_spread cX1_spread 3 none :: ([.fieldLink RX1 36 "LadderGridModel" "rows" "I", .fieldLink RX1 19 "LadderGridModel" "isLinked" "[Z", .fieldLink RX1 29 "LadderGridModel" "hasPower" "[Z"] ++ wsX10)
def wsX1_coils : List Cond := .code yX1_coils cX1_coils 7 (some .int) :: ([.fieldLink RX1 36 "LadderGridModel" "rows" "I", .fieldLink RX1 40 "LadderGridModel" "columns" "I", .fieldLink RX1 29 "LadderGridModel" "hasPower" "[Z", .fieldLink RX1 13 "LadderGridModel" "variables" "[I", .fieldLink RX1 7 "LadderGridModel" "kinds" "[I", .fieldLink RX1 23 "LadderGridModel" "values" "[I"] ++ wsX10)
def wsX1_scan : List Cond := .code yX1_scan cX1_scan 4 (some .int) :: ([.fieldLink RX1 26 "LadderGridModel" "then" "[I", .fieldLink RX1 23 "LadderGridModel" "values" "[I", .fieldLink RX1 36 "LadderGridModel" "rows" "I", .fieldLink RX1 29 "LadderGridModel" "hasPower" "[Z", .fieldLink RX1 40 "LadderGridModel" "columns" "I", .fieldLink RX1 16 "LadderGridModel" "before" "[I", .fieldLink RX1 13 "LadderGridModel" "variables" "[I", .fieldLink RX1 43 "LadderGridModel" "isScanned" "Z", .methodLink RX1 55 yX1_lets, .instanceMethod yX1_lets, .selects RX1 yX1_lets yX1_lets, .initialized RX1, .code yX1_lets cX1_lets 3 (some .boolean), .fieldLink RX1 7 "LadderGridModel" "kinds" "[I", .methodLink RX1 58 yX1_spread, .instanceMethod yX1_spread, .selects RX1 yX1_spread yX1_spread, .code yX1_spread cX1_spread 3 none, .fieldLink RX1 19 "LadderGridModel" "isLinked" "[Z", .methodLink RX1 62 yX1_coils, .instanceMethod yX1_coils, .selects RX1 yX1_coils yX1_coils, .code yX1_coils cX1_coils 7 (some .int)] ++ wsX10)
def wsX1_power : List Cond := .code yX1_power cX1_power 3 (some .int) :: ([.fieldLink RX1 36 "LadderGridModel" "rows" "I", .fieldLink RX1 40 "LadderGridModel" "columns" "I", .fieldLink RX1 43 "LadderGridModel" "isScanned" "Z", .fieldLink RX1 7 "LadderGridModel" "kinds" "[I", .fieldLink RX1 29 "LadderGridModel" "hasPower" "[Z"] ++ wsX10)
def wsX1_term : List Cond := .code yX1_term cX1_term 1 (some .int) :: ([])
def wsX1_lineSteps : List Cond := .code yX1_lineSteps cX1_lineSteps 7 (some .int) :: ([.fieldLink RX1 36 "LadderGridModel" "rows" "I", .fieldLink RX1 7 "LadderGridModel" "kinds" "[I", .fieldLink RX1 40 "LadderGridModel" "columns" "I", .fieldLink RX1 19 "LadderGridModel" "isLinked" "[Z", .methodLink RX1 66 yX1_term, .static yX1_term, .initialized RX1, .code yX1_term cX1_term 1 (some .int)] ++ wsX10)
def wsX1_steps : List Cond := .code yX1_steps cX1_steps 4 (some .int) :: ([.fieldLink RX1 40 "LadderGridModel" "columns" "I", .fieldLink RX1 36 "LadderGridModel" "rows" "I", .fieldLink RX1 7 "LadderGridModel" "kinds" "[I", .methodLink RX1 70 yX1_lineSteps, .instanceMethod yX1_lineSteps, .selects RX1 yX1_lineSteps yX1_lineSteps, .initialized RX1, .code yX1_lineSteps cX1_lineSteps 7 (some .int), .fieldLink RX1 19 "LadderGridModel" "isLinked" "[Z", .methodLink RX1 66 yX1_term, .static yX1_term, .code yX1_term cX1_term 1 (some .int)] ++ wsX10)
def wsX1_groups : List Cond := .code yX1_groups cX1_groups 4 (some .int) :: ([.fieldLink RX1 40 "LadderGridModel" "columns" "I", .fieldLink RX1 36 "LadderGridModel" "rows" "I", .fieldLink RX1 19 "LadderGridModel" "isLinked" "[Z"] ++ wsX10)
def wsL_law_r1 : List Cond := [Cond.classLink RL 7 RX0, Cond.instantiable RX0 9, Cond.initialized RX0, Cond.classLink RL 10 RX1, Cond.instantiable RX1 10, Cond.initialized RX1, Cond.methodLink RL 9 yX0_init, Cond.instanceMethod yX0_init, Cond.code yX0_init cX0_init 1 none, Cond.methodLink RX0 3 objectInit, Cond.instanceMethod objectInit, Cond.code objectInit ⟨#[0xb1]⟩ 1 none, Cond.arrayClass .int, Cond.fieldLink RX0 9 "LadderGrid" "kinds" "[I", Cond.fieldLink RX0 13 "LadderGrid" "cellVariables" "[I", Cond.fieldLink RX0 16 "LadderGrid" "seen" "[I", Cond.fieldLink RX0 19 "LadderGrid" "links" "[I", Cond.fieldLink RX0 22 "LadderGrid" "powered" "[I", Cond.fieldLink RX0 25 "LadderGrid" "values" "[I", Cond.fieldLink RX0 28 "LadderGrid" "rows" "I", Cond.fieldLink RX0 32 "LadderGrid" "columns" "I", Cond.fieldLink RX0 35 "LadderGrid" "scanned" "Z", Cond.methodLink RL 12 yX1_init, Cond.instanceMethod yX1_init]
def wsL_law_r2 : List Cond := [Cond.code yX1_init cX1_init 1 none, Cond.methodLink RX1 1 objectInit, Cond.fieldLink RX1 7 "LadderGridModel" "kinds" "[I", Cond.fieldLink RX1 13 "LadderGridModel" "variables" "[I", Cond.fieldLink RX1 16 "LadderGridModel" "before" "[I", Cond.arrayClass .boolean, Cond.fieldLink RX1 19 "LadderGridModel" "isLinked" "[Z", Cond.fieldLink RX1 23 "LadderGridModel" "values" "[I", Cond.fieldLink RX1 26 "LadderGridModel" "then" "[I", Cond.fieldLink RX1 29 "LadderGridModel" "hasPower" "[Z", Cond.methodLink RX1 32 yX1_begin, Cond.instanceMethod yX1_begin, Cond.selects RX1 yX1_begin yX1_begin, Cond.code yX1_begin cX1_begin 4 (some .int), Cond.fieldLink RX1 36 "LadderGridModel" "rows" "I", Cond.fieldLink RX1 40 "LadderGridModel" "columns" "I", Cond.fieldLink RX1 43 "LadderGridModel" "isScanned" "Z", Cond.methodLink RL 13 yX0_begin, Cond.instanceMethod yX0_begin, Cond.selects RX0 yX0_begin yX0_begin, Cond.code yX0_begin cX0_begin 3 (some .int), Cond.methodLink RX0 39 yJ7_fill_53178, Cond.static yJ7_fill_53178, Cond.initialized RJ7]
def wsL_law_r3 : List Cond := [Cond.code yJ7_fill_53178 cJ7_fill_53178 4 none, Cond.methodLink RL 17 yX1_begin, Cond.methodLink RL 18 yX0_cell, Cond.instanceMethod yX0_cell, Cond.selects RX0 yX0_cell yX0_cell, Cond.code yX0_cell cX0_cell 7 (some .int), Cond.methodLink RX0 45 yX0_isRow, Cond.instanceMethod yX0_isRow, Cond.selects RX0 yX0_isRow yX0_isRow, Cond.code yX0_isRow cX0_isRow 2 (some .boolean), Cond.methodLink RX0 49 yX0_hasVariable, Cond.static yX0_hasVariable, Cond.code yX0_hasVariable cX0_hasVariable 1 (some .boolean), Cond.methodLink RX0 52 yX0_isVariable, Cond.static yX0_isVariable, Cond.code yX0_isVariable cX0_isVariable 1 (some .boolean), Cond.methodLink RX0 55 yX0_isCoil, Cond.static yX0_isCoil, Cond.code yX0_isCoil cX0_isCoil 1 (some .boolean), Cond.methodLink RX0 58 yX0_cellAt, Cond.static yX0_cellAt, Cond.code yX0_cellAt cX0_cellAt 2 (some .int), Cond.methodLink RL 22 yX1_cell, Cond.instanceMethod yX1_cell]
def wsL_law_r4 : List Cond := [Cond.selects RX1 yX1_cell yX1_cell, Cond.code yX1_cell cX1_cell 7 (some .int), Cond.methodLink RX1 47 yX1_isCell, Cond.instanceMethod yX1_isCell, Cond.selects RX1 yX1_isCell yX1_isCell, Cond.code yX1_isCell cX1_isCell 3 (some .boolean), Cond.methodLink RX1 51 yX1_isVariable, Cond.static yX1_isVariable, Cond.code yX1_isVariable cX1_isVariable 1 (some .boolean), Cond.methodLink RL 23 yX0_link, Cond.instanceMethod yX0_link, Cond.selects RX0 yX0_link yX0_link, Cond.code yX0_link cX0_link 6 (some .int), Cond.methodLink RX0 62 yX0_pointAt, Cond.static yX0_pointAt, Cond.code yX0_pointAt cX0_pointAt 2 (some .int), Cond.methodLink RL 27 yX1_link, Cond.instanceMethod yX1_link, Cond.selects RX1 yX1_link yX1_link, Cond.code yX1_link cX1_link 6 (some .int), Cond.methodLink RL 28 yX0_set, Cond.instanceMethod yX0_set, Cond.selects RX0 yX0_set yX0_set, Cond.code yX0_set cX0_set 4 (some .int)]
def wsL_law_r5 : List Cond := [Cond.methodLink RL 31 yX1_set, Cond.instanceMethod yX1_set, Cond.selects RX1 yX1_set yX1_set, Cond.code yX1_set cX1_set 4 (some .int), Cond.methodLink RL 32 yX0_get, Cond.instanceMethod yX0_get, Cond.selects RX0 yX0_get yX0_get, Cond.code yX0_get cX0_get 2 (some .int), Cond.methodLink RL 36 yX1_get, Cond.instanceMethod yX1_get, Cond.selects RX1 yX1_get yX1_get, Cond.code yX1_get cX1_get 2 (some .int), Cond.methodLink RL 37 yX0_scan, Cond.instanceMethod yX0_scan, Cond.selects RX0 yX0_scan yX0_scan, Cond.code yX0_scan cX0_scan 2 (some .int), Cond.methodLink RX0 65 yX0_passColumn, Cond.instanceMethod yX0_passColumn, Cond.selects RX0 yX0_passColumn yX0_passColumn, Cond.code yX0_passColumn cX0_passColumn 6 none, Cond.methodLink RX0 86 yX0_letsThrough, Cond.static yX0_letsThrough, Cond.code yX0_letsThrough cX0_letsThrough 3 (some .boolean), Cond.methodLink RX0 69 yX0_shareAlongLinks]
def wsL_law_r6 : List Cond := [Cond.instanceMethod yX0_shareAlongLinks, Cond.selects RX0 yX0_shareAlongLinks yX0_shareAlongLinks, Cond.code yX0_shareAlongLinks cX0_shareAlongLinks 3 none, Cond.methodLink RX0 72 yX0_driveCoils, Cond.instanceMethod yX0_driveCoils, Cond.selects RX0 yX0_driveCoils yX0_driveCoils, Cond.code yX0_driveCoils cX0_driveCoils 6 (some .int), Cond.methodLink RX0 90 yX0_coilValue, Cond.static yX0_coilValue, Cond.code yX0_coilValue cX0_coilValue 3 (some .int), Cond.methodLink RL 41 yX1_scan, Cond.instanceMethod yX1_scan, Cond.selects RX1 yX1_scan yX1_scan, Cond.code yX1_scan cX1_scan 4 (some .int), Cond.methodLink RX1 55 yX1_lets, Cond.instanceMethod yX1_lets, Cond.selects RX1 yX1_lets yX1_lets, Cond.code yX1_lets cX1_lets 3 (some .boolean), Cond.methodLink RX1 58 yX1_spread, Cond.instanceMethod yX1_spread, Cond.selects RX1 yX1_spread yX1_spread, Cond.code yX1_spread cX1_spread 3 none, Cond.methodLink RX1 62 yX1_coils, Cond.instanceMethod yX1_coils]
def wsL_law_r7 : List Cond := [Cond.selects RX1 yX1_coils yX1_coils, Cond.code yX1_coils cX1_coils 7 (some .int), Cond.methodLink RL 42 yX0_power, Cond.instanceMethod yX0_power, Cond.selects RX0 yX0_power yX0_power, Cond.code yX0_power cX0_power 3 (some .int), Cond.methodLink RX0 76 yX0_isLine, Cond.instanceMethod yX0_isLine, Cond.selects RX0 yX0_isLine yX0_isLine, Cond.code yX0_isLine cX0_isLine 2 (some .boolean), Cond.methodLink RL 45 yX1_power, Cond.instanceMethod yX1_power, Cond.selects RX1 yX1_power yX1_power, Cond.code yX1_power cX1_power 3 (some .int), Cond.methodLink RL 46 yX0_steps, Cond.instanceMethod yX0_steps, Cond.selects RX0 yX0_steps yX0_steps, Cond.code yX0_steps cX0_steps 3 (some .int), Cond.methodLink RX0 79 yX0_lineSteps, Cond.instanceMethod yX0_lineSteps, Cond.selects RX0 yX0_lineSteps yX0_lineSteps, Cond.code yX0_lineSteps cX0_lineSteps 7 (some .int), Cond.fieldLink RX0 94 "LadderGrid" "KIND_STEPS" "[I", Cond.methodLink RX0 97 yX0_joiningSteps]
def wsL_law_r8 : List Cond := [Cond.static yX0_joiningSteps, Cond.code yX0_joiningSteps cX0_joiningSteps 1 (some .int), Cond.methodLink RX0 83 yX0_coilSteps, Cond.instanceMethod yX0_coilSteps, Cond.selects RX0 yX0_coilSteps yX0_coilSteps, Cond.code yX0_coilSteps cX0_coilSteps 4 (some .int), Cond.methodLink RL 49 yX1_steps, Cond.instanceMethod yX1_steps, Cond.selects RX1 yX1_steps yX1_steps, Cond.code yX1_steps cX1_steps 4 (some .int), Cond.methodLink RX1 70 yX1_lineSteps, Cond.instanceMethod yX1_lineSteps, Cond.selects RX1 yX1_lineSteps yX1_lineSteps, Cond.code yX1_lineSteps cX1_lineSteps 7 (some .int), Cond.methodLink RX1 66 yX1_term, Cond.static yX1_term, Cond.code yX1_term cX1_term 1 (some .int), Cond.methodLink RL 50 yX0_groups, Cond.instanceMethod yX0_groups, Cond.selects RX0 yX0_groups yX0_groups, Cond.code yX0_groups cX0_groups 4 (some .int), Cond.methodLink RL 53 yX1_groups, Cond.instanceMethod yX1_groups, Cond.selects RX1 yX1_groups yX1_groups]
def wsL_law_r9 : List Cond := [Cond.code yX1_groups cX1_groups 4 (some .int)]
def wsL_law : List Cond := (wsL_law_r1 ++ (wsL_law_r2 ++ (wsL_law_r3 ++ (wsL_law_r4 ++ (wsL_law_r5 ++ (wsL_law_r6 ++ (wsL_law_r7 ++ (wsL_law_r8 ++ wsL_law_r9)))))))) ++ wsX00 ++ wsX10 ++ ([] : List Cond)
set_option maxRecDepth 20000 in
theorem wsL_law_in : ∀ w ∈ wsL_law, w ∈ lw_tbl := fun w h => (goodIn_p wsL_law [20, 23, 150, 155, 56, 59, 63, 67, 70, 73, 76, 79, 192, 196, 199, 83, 86, 203, 90, 207, 94, 211, 98, 102, 105, 109, 113, 116, 215, 219, 223, 227, 120, 124, 231, 128, 132, 137, 141, 235, 239, 242, 145, 246] (by decide +kernel) (by decide +kernel) w h).1
theorem inlX0 : ∀ w ∈ wsX00, w ∈ wsL_law := fun _ h => List.mem_append_left _ (List.mem_append_left _ (List.mem_append_right _ h))
theorem inX0 : ∀ w ∈ wsX00, w ∈ lw_tbl := fun w h => wsL_law_in w (inlX0 w h)
theorem inlX1 : ∀ w ∈ wsX10, w ∈ wsL_law := fun _ h => List.mem_append_left _ (List.mem_append_right _ h)
theorem inX1 : ∀ w ∈ wsX10, w ∈ lw_tbl := fun w h => wsL_law_in w (inlX1 w h)
theorem inJ7 : ∀ w ∈ wsJ70, w ∈ lw_tbl := by decide +kernel
theorem dX0_init_0 : decode cX0_init 0 = .ok (.aload_n 0, 1) := by decide +kernel
theorem dX0_init_1 : decode cX0_init 1 = .ok (.invokespecial 3, 3) := by decide +kernel
theorem dX0_init_4 : decode cX0_init 4 = .ok (.aload_n 0, 1) := by decide +kernel
theorem dX0_init_5 : decode cX0_init 5 = .ok (.sipush 144, 3) := by decide +kernel
theorem dX0_init_8 : decode cX0_init 8 = .ok (.newarray .int, 2) := by decide +kernel
theorem dX0_init_10 : decode cX0_init 10 = .ok (.putfield 9, 3) := by decide +kernel
theorem dX0_init_13 : decode cX0_init 13 = .ok (.aload_n 0, 1) := by decide +kernel
theorem dX0_init_14 : decode cX0_init 14 = .ok (.sipush 144, 3) := by decide +kernel
theorem dX0_init_17 : decode cX0_init 17 = .ok (.newarray .int, 2) := by decide +kernel
theorem dX0_init_19 : decode cX0_init 19 = .ok (.putfield 13, 3) := by decide +kernel
theorem dX0_init_22 : decode cX0_init 22 = .ok (.aload_n 0, 1) := by decide +kernel
theorem dX0_init_23 : decode cX0_init 23 = .ok (.sipush 144, 3) := by decide +kernel
theorem dX0_init_26 : decode cX0_init 26 = .ok (.newarray .int, 2) := by decide +kernel
theorem dX0_init_28 : decode cX0_init 28 = .ok (.putfield 16, 3) := by decide +kernel
theorem dX0_init_31 : decode cX0_init 31 = .ok (.aload_n 0, 1) := by decide +kernel
theorem dX0_init_32 : decode cX0_init 32 = .ok (.sipush 156, 3) := by decide +kernel
theorem dX0_init_35 : decode cX0_init 35 = .ok (.newarray .int, 2) := by decide +kernel
theorem dX0_init_37 : decode cX0_init 37 = .ok (.putfield 19, 3) := by decide +kernel
theorem dX0_init_40 : decode cX0_init 40 = .ok (.aload_n 0, 1) := by decide +kernel
theorem dX0_init_41 : decode cX0_init 41 = .ok (.sipush 156, 3) := by decide +kernel
theorem dX0_init_44 : decode cX0_init 44 = .ok (.newarray .int, 2) := by decide +kernel
theorem dX0_init_46 : decode cX0_init 46 = .ok (.putfield 22, 3) := by decide +kernel
theorem dX0_init_49 : decode cX0_init 49 = .ok (.aload_n 0, 1) := by decide +kernel
theorem dX0_init_50 : decode cX0_init 50 = .ok (.bipush 40, 2) := by decide +kernel
theorem dX0_init_52 : decode cX0_init 52 = .ok (.newarray .int, 2) := by decide +kernel
theorem dX0_init_54 : decode cX0_init 54 = .ok (.putfield 25, 3) := by decide +kernel
theorem dX0_init_57 : decode cX0_init 57 = .ok (.aload_n 0, 1) := by decide +kernel
theorem dX0_init_58 : decode cX0_init 58 = .ok (.iconst 1, 1) := by decide +kernel
theorem dX0_init_59 : decode cX0_init 59 = .ok (.putfield 28, 3) := by decide +kernel
theorem dX0_init_62 : decode cX0_init 62 = .ok (.aload_n 0, 1) := by decide +kernel
theorem dX0_init_63 : decode cX0_init 63 = .ok (.iconst 1, 1) := by decide +kernel
theorem dX0_init_64 : decode cX0_init 64 = .ok (.putfield 32, 3) := by decide +kernel
theorem dX0_init_67 : decode cX0_init 67 = .ok (.aload_n 0, 1) := by decide +kernel
theorem dX0_init_68 : decode cX0_init 68 = .ok (.iconst 0, 1) := by decide +kernel
theorem dX0_init_69 : decode cX0_init 69 = .ok (.putfield 35, 3) := by decide +kernel
theorem dX0_init_72 : decode cX0_init 72 = .ok (.return_, 1) := by decide +kernel
set_option maxRecDepth 20000 in
theorem ggX0_begin_J7_fill_53178 : GoodIn wsX0_begin wsJ7_fill_53178 := goodIn_r _ [11] (by decide +kernel) (by decide +kernel)
set_option maxRecDepth 20000 in
theorem gX0_begin_J7_fill_53178 : GoodIn wsX0_begin (va_wsS RX0 39 yJ7_fill_53178 wsJ7_fill_53178) := goodIn_app (goodIn_of _ (by decide +kernel)) ggX0_begin_J7_fill_53178
theorem dX0_begin_0 : decode cX0_begin 0 = .ok (.iload_n 1, 1) := by decide +kernel
theorem dX0_begin_1 : decode cX0_begin 1 = .ok (.iconst 1, 1) := by decide +kernel
theorem dX0_begin_2 : decode cX0_begin 2 = .ok (.if_icmp .lt 20, 3) := by decide +kernel
theorem dX0_begin_5 : decode cX0_begin 5 = .ok (.iload_n 1, 1) := by decide +kernel
theorem dX0_begin_6 : decode cX0_begin 6 = .ok (.bipush 12, 2) := by decide +kernel
theorem dX0_begin_8 : decode cX0_begin 8 = .ok (.if_icmp .gt 14, 3) := by decide +kernel
theorem dX0_begin_11 : decode cX0_begin 11 = .ok (.iload_n 2, 1) := by decide +kernel
theorem dX0_begin_12 : decode cX0_begin 12 = .ok (.iconst 1, 1) := by decide +kernel
theorem dX0_begin_13 : decode cX0_begin 13 = .ok (.if_icmp .lt 9, 3) := by decide +kernel
theorem dX0_begin_16 : decode cX0_begin 16 = .ok (.iload_n 2, 1) := by decide +kernel
theorem dX0_begin_17 : decode cX0_begin 17 = .ok (.bipush 12, 2) := by decide +kernel
theorem dX0_begin_19 : decode cX0_begin 19 = .ok (.if_icmp .le 5, 3) := by decide +kernel
theorem dX0_begin_22 : decode cX0_begin 22 = .ok (.iconst (-1), 1) := by decide +kernel
theorem dX0_begin_23 : decode cX0_begin 23 = .ok (.ireturn, 1) := by decide +kernel
theorem dX0_begin_24 : decode cX0_begin 24 = .ok (.aload_n 0, 1) := by decide +kernel
theorem dX0_begin_25 : decode cX0_begin 25 = .ok (.iload_n 1, 1) := by decide +kernel
theorem dX0_begin_26 : decode cX0_begin 26 = .ok (.putfield 28, 3) := by decide +kernel
theorem dX0_begin_29 : decode cX0_begin 29 = .ok (.aload_n 0, 1) := by decide +kernel
theorem dX0_begin_30 : decode cX0_begin 30 = .ok (.iload_n 2, 1) := by decide +kernel
theorem dX0_begin_31 : decode cX0_begin 31 = .ok (.putfield 32, 3) := by decide +kernel
theorem dX0_begin_34 : decode cX0_begin 34 = .ok (.aload_n 0, 1) := by decide +kernel
theorem dX0_begin_35 : decode cX0_begin 35 = .ok (.getfield 9, 3) := by decide +kernel
theorem dX0_begin_38 : decode cX0_begin 38 = .ok (.iconst 0, 1) := by decide +kernel
theorem dX0_begin_39 : decode cX0_begin 39 = .ok (.invokestatic 39, 3) := by decide +kernel
theorem dX0_begin_42 : decode cX0_begin 42 = .ok (.aload_n 0, 1) := by decide +kernel
theorem dX0_begin_43 : decode cX0_begin 43 = .ok (.getfield 13, 3) := by decide +kernel
theorem dX0_begin_46 : decode cX0_begin 46 = .ok (.iconst 0, 1) := by decide +kernel
theorem dX0_begin_47 : decode cX0_begin 47 = .ok (.invokestatic 39, 3) := by decide +kernel
theorem dX0_begin_50 : decode cX0_begin 50 = .ok (.aload_n 0, 1) := by decide +kernel
theorem dX0_begin_51 : decode cX0_begin 51 = .ok (.getfield 16, 3) := by decide +kernel
theorem dX0_begin_54 : decode cX0_begin 54 = .ok (.iconst 0, 1) := by decide +kernel
theorem dX0_begin_55 : decode cX0_begin 55 = .ok (.invokestatic 39, 3) := by decide +kernel
theorem dX0_begin_58 : decode cX0_begin 58 = .ok (.aload_n 0, 1) := by decide +kernel
theorem dX0_begin_59 : decode cX0_begin 59 = .ok (.getfield 19, 3) := by decide +kernel
theorem dX0_begin_62 : decode cX0_begin 62 = .ok (.iconst 0, 1) := by decide +kernel
theorem dX0_begin_63 : decode cX0_begin 63 = .ok (.invokestatic 39, 3) := by decide +kernel
theorem dX0_begin_66 : decode cX0_begin 66 = .ok (.aload_n 0, 1) := by decide +kernel
theorem dX0_begin_67 : decode cX0_begin 67 = .ok (.iconst 0, 1) := by decide +kernel
theorem dX0_begin_68 : decode cX0_begin 68 = .ok (.putfield 35, 3) := by decide +kernel
theorem dX0_begin_71 : decode cX0_begin 71 = .ok (.iconst 0, 1) := by decide +kernel
theorem dX0_begin_72 : decode cX0_begin 72 = .ok (.ireturn, 1) := by decide +kernel
set_option maxRecDepth 20000 in
theorem ggX0_cell_X0_isRow : GoodIn wsX0_cell wsX0_isRow := goodIn_r _ [10, 11, 24, 25, 26, 27, 28, 29, 30, 31, 32] (by decide +kernel) (by decide +kernel)
set_option maxRecDepth 20000 in
theorem gX0_cell_X0_isRow : GoodIn wsX0_cell (wsV RX0 45 RX0 yX0_isRow wsX0_isRow) := goodIn_app (goodIn_of _ (by decide +kernel)) ggX0_cell_X0_isRow
set_option maxRecDepth 20000 in
theorem ggX0_cell_X0_hasVariable : GoodIn wsX0_cell wsX0_hasVariable := goodIn_r _ [14] (by decide +kernel) (by decide +kernel)
set_option maxRecDepth 20000 in
theorem gX0_cell_X0_hasVariable : GoodIn wsX0_cell (va_wsS RX0 49 yX0_hasVariable wsX0_hasVariable) := goodIn_app (goodIn_of _ (by decide +kernel)) ggX0_cell_X0_hasVariable
set_option maxRecDepth 20000 in
theorem ggX0_cell_X0_isVariable : GoodIn wsX0_cell wsX0_isVariable := goodIn_r _ [17] (by decide +kernel) (by decide +kernel)
set_option maxRecDepth 20000 in
theorem gX0_cell_X0_isVariable : GoodIn wsX0_cell (va_wsS RX0 52 yX0_isVariable wsX0_isVariable) := goodIn_app (goodIn_of _ (by decide +kernel)) ggX0_cell_X0_isVariable
set_option maxRecDepth 20000 in
theorem ggX0_cell_X0_isCoil : GoodIn wsX0_cell wsX0_isCoil := goodIn_r _ [20] (by decide +kernel) (by decide +kernel)
set_option maxRecDepth 20000 in
theorem gX0_cell_X0_isCoil : GoodIn wsX0_cell (va_wsS RX0 55 yX0_isCoil wsX0_isCoil) := goodIn_app (goodIn_of _ (by decide +kernel)) ggX0_cell_X0_isCoil
set_option maxRecDepth 20000 in
theorem ggX0_cell_X0_cellAt : GoodIn wsX0_cell wsX0_cellAt := goodIn_r _ [23] (by decide +kernel) (by decide +kernel)
set_option maxRecDepth 20000 in
theorem gX0_cell_X0_cellAt : GoodIn wsX0_cell (va_wsS RX0 58 yX0_cellAt wsX0_cellAt) := goodIn_app (goodIn_of _ (by decide +kernel)) ggX0_cell_X0_cellAt
theorem dX0_cell_0 : decode cX0_cell 0 = .ok (.aload_n 0, 1) := by decide +kernel
theorem dX0_cell_1 : decode cX0_cell 1 = .ok (.iload_n 1, 1) := by decide +kernel
theorem dX0_cell_2 : decode cX0_cell 2 = .ok (.invokevirtual 45, 3) := by decide +kernel
theorem dX0_cell_5 : decode cX0_cell 5 = .ok (.ifCond .eq 25, 3) := by decide +kernel
theorem dX0_cell_8 : decode cX0_cell 8 = .ok (.iload_n 2, 1) := by decide +kernel
theorem dX0_cell_9 : decode cX0_cell 9 = .ok (.ifCond .lt 21, 3) := by decide +kernel
theorem dX0_cell_12 : decode cX0_cell 12 = .ok (.iload_n 2, 1) := by decide +kernel
theorem dX0_cell_13 : decode cX0_cell 13 = .ok (.aload_n 0, 1) := by decide +kernel
theorem dX0_cell_14 : decode cX0_cell 14 = .ok (.getfield 32, 3) := by decide +kernel
theorem dX0_cell_17 : decode cX0_cell 17 = .ok (.if_icmp .ge 13, 3) := by decide +kernel
theorem dX0_cell_20 : decode cX0_cell 20 = .ok (.iload_n 3, 1) := by decide +kernel
theorem dX0_cell_21 : decode cX0_cell 21 = .ok (.ifCond .lt 9, 3) := by decide +kernel
theorem dX0_cell_24 : decode cX0_cell 24 = .ok (.iload_n 3, 1) := by decide +kernel
theorem dX0_cell_25 : decode cX0_cell 25 = .ok (.bipush 9, 2) := by decide +kernel
theorem dX0_cell_27 : decode cX0_cell 27 = .ok (.if_icmp .le 5, 3) := by decide +kernel
theorem dX0_cell_30 : decode cX0_cell 30 = .ok (.iconst (-1), 1) := by decide +kernel
theorem dX0_cell_31 : decode cX0_cell 31 = .ok (.ireturn, 1) := by decide +kernel
theorem dX0_cell_32 : decode cX0_cell 32 = .ok (.iload_n 3, 1) := by decide +kernel
theorem dX0_cell_33 : decode cX0_cell 33 = .ok (.invokestatic 49, 3) := by decide +kernel
theorem dX0_cell_36 : decode cX0_cell 36 = .ok (.ifCond .eq 13, 3) := by decide +kernel
theorem dX0_cell_39 : decode cX0_cell 39 = .ok (.iload 4, 2) := by decide +kernel
theorem dX0_cell_41 : decode cX0_cell 41 = .ok (.invokestatic 52, 3) := by decide +kernel
theorem dX0_cell_44 : decode cX0_cell 44 = .ok (.ifCond .ne 5, 3) := by decide +kernel
theorem dX0_cell_47 : decode cX0_cell 47 = .ok (.iconst (-1), 1) := by decide +kernel
theorem dX0_cell_48 : decode cX0_cell 48 = .ok (.ireturn, 1) := by decide +kernel
theorem dX0_cell_49 : decode cX0_cell 49 = .ok (.iload_n 3, 1) := by decide +kernel
theorem dX0_cell_50 : decode cX0_cell 50 = .ok (.invokestatic 55, 3) := by decide +kernel
theorem dX0_cell_53 : decode cX0_cell 53 = .ok (.ifCond .eq 15, 3) := by decide +kernel
theorem dX0_cell_56 : decode cX0_cell 56 = .ok (.iload_n 2, 1) := by decide +kernel
theorem dX0_cell_57 : decode cX0_cell 57 = .ok (.aload_n 0, 1) := by decide +kernel
theorem dX0_cell_58 : decode cX0_cell 58 = .ok (.getfield 32, 3) := by decide +kernel
theorem dX0_cell_61 : decode cX0_cell 61 = .ok (.iconst 1, 1) := by decide +kernel
theorem dX0_cell_62 : decode cX0_cell 62 = .ok (.isub, 1) := by decide +kernel
theorem dX0_cell_63 : decode cX0_cell 63 = .ok (.if_icmp .eq 5, 3) := by decide +kernel
theorem dX0_cell_66 : decode cX0_cell 66 = .ok (.iconst (-1), 1) := by decide +kernel
theorem dX0_cell_67 : decode cX0_cell 67 = .ok (.ireturn, 1) := by decide +kernel
theorem dX0_cell_68 : decode cX0_cell 68 = .ok (.iload_n 1, 1) := by decide +kernel
theorem dX0_cell_69 : decode cX0_cell 69 = .ok (.iload_n 2, 1) := by decide +kernel
theorem dX0_cell_70 : decode cX0_cell 70 = .ok (.invokestatic 58, 3) := by decide +kernel
theorem dX0_cell_73 : decode cX0_cell 73 = .ok (.istore 5, 2) := by decide +kernel
theorem dX0_cell_75 : decode cX0_cell 75 = .ok (.aload_n 0, 1) := by decide +kernel
theorem dX0_cell_76 : decode cX0_cell 76 = .ok (.getfield 9, 3) := by decide +kernel
theorem dX0_cell_79 : decode cX0_cell 79 = .ok (.iload 5, 2) := by decide +kernel
theorem dX0_cell_81 : decode cX0_cell 81 = .ok (.iaload, 1) := by decide +kernel
theorem dX0_cell_82 : decode cX0_cell 82 = .ok (.istore 6, 2) := by decide +kernel
theorem dX0_cell_84 : decode cX0_cell 84 = .ok (.aload_n 0, 1) := by decide +kernel
theorem dX0_cell_85 : decode cX0_cell 85 = .ok (.getfield 9, 3) := by decide +kernel
theorem dX0_cell_88 : decode cX0_cell 88 = .ok (.iload 5, 2) := by decide +kernel
theorem dX0_cell_90 : decode cX0_cell 90 = .ok (.iload_n 3, 1) := by decide +kernel
theorem dX0_cell_91 : decode cX0_cell 91 = .ok (.iastore, 1) := by decide +kernel
theorem dX0_cell_92 : decode cX0_cell 92 = .ok (.aload_n 0, 1) := by decide +kernel
theorem dX0_cell_93 : decode cX0_cell 93 = .ok (.getfield 13, 3) := by decide +kernel
theorem dX0_cell_96 : decode cX0_cell 96 = .ok (.iload 5, 2) := by decide +kernel
theorem dX0_cell_98 : decode cX0_cell 98 = .ok (.iload_n 3, 1) := by decide +kernel
theorem dX0_cell_99 : decode cX0_cell 99 = .ok (.invokestatic 49, 3) := by decide +kernel
theorem dX0_cell_102 : decode cX0_cell 102 = .ok (.ifCond .eq 8, 3) := by decide +kernel
theorem dX0_cell_105 : decode cX0_cell 105 = .ok (.iload 4, 2) := by decide +kernel
theorem dX0_cell_107 : decode cX0_cell 107 = .ok (.goto 4, 3) := by decide +kernel
theorem dX0_cell_110 : decode cX0_cell 110 = .ok (.iconst 0, 1) := by decide +kernel
theorem dX0_cell_111 : decode cX0_cell 111 = .ok (.iastore, 1) := by decide +kernel
theorem dX0_cell_112 : decode cX0_cell 112 = .ok (.aload_n 0, 1) := by decide +kernel
theorem dX0_cell_113 : decode cX0_cell 113 = .ok (.getfield 16, 3) := by decide +kernel
theorem dX0_cell_116 : decode cX0_cell 116 = .ok (.iload 5, 2) := by decide +kernel
theorem dX0_cell_118 : decode cX0_cell 118 = .ok (.iconst 0, 1) := by decide +kernel
theorem dX0_cell_119 : decode cX0_cell 119 = .ok (.iastore, 1) := by decide +kernel
theorem dX0_cell_120 : decode cX0_cell 120 = .ok (.aload_n 0, 1) := by decide +kernel
theorem dX0_cell_121 : decode cX0_cell 121 = .ok (.iconst 0, 1) := by decide +kernel
theorem dX0_cell_122 : decode cX0_cell 122 = .ok (.putfield 35, 3) := by decide +kernel
theorem dX0_cell_125 : decode cX0_cell 125 = .ok (.iload 6, 2) := by decide +kernel
theorem dX0_cell_127 : decode cX0_cell 127 = .ok (.ireturn, 1) := by decide +kernel
set_option maxRecDepth 20000 in
theorem ggX0_link_X0_pointAt : GoodIn wsX0_link wsX0_pointAt := goodIn_r _ [8] (by decide +kernel) (by decide +kernel)
set_option maxRecDepth 20000 in
theorem gX0_link_X0_pointAt : GoodIn wsX0_link (va_wsS RX0 62 yX0_pointAt wsX0_pointAt) := goodIn_app (goodIn_of _ (by decide +kernel)) ggX0_link_X0_pointAt
theorem dX0_link_0 : decode cX0_link 0 = .ok (.iload_n 1, 1) := by decide +kernel
theorem dX0_link_1 : decode cX0_link 1 = .ok (.ifCond .lt 26, 3) := by decide +kernel
theorem dX0_link_4 : decode cX0_link 4 = .ok (.iload_n 1, 1) := by decide +kernel
theorem dX0_link_5 : decode cX0_link 5 = .ok (.aload_n 0, 1) := by decide +kernel
theorem dX0_link_6 : decode cX0_link 6 = .ok (.getfield 28, 3) := by decide +kernel
theorem dX0_link_9 : decode cX0_link 9 = .ok (.iconst 1, 1) := by decide +kernel
theorem dX0_link_10 : decode cX0_link 10 = .ok (.isub, 1) := by decide +kernel
theorem dX0_link_11 : decode cX0_link 11 = .ok (.if_icmp .ge 16, 3) := by decide +kernel
theorem dX0_link_14 : decode cX0_link 14 = .ok (.iload_n 2, 1) := by decide +kernel
theorem dX0_link_15 : decode cX0_link 15 = .ok (.iconst 1, 1) := by decide +kernel
theorem dX0_link_16 : decode cX0_link 16 = .ok (.if_icmp .lt 11, 3) := by decide +kernel
theorem dX0_link_19 : decode cX0_link 19 = .ok (.iload_n 2, 1) := by decide +kernel
theorem dX0_link_20 : decode cX0_link 20 = .ok (.aload_n 0, 1) := by decide +kernel
theorem dX0_link_21 : decode cX0_link 21 = .ok (.getfield 32, 3) := by decide +kernel
theorem dX0_link_24 : decode cX0_link 24 = .ok (.if_icmp .lt 5, 3) := by decide +kernel
theorem dX0_link_27 : decode cX0_link 27 = .ok (.iconst (-1), 1) := by decide +kernel
theorem dX0_link_28 : decode cX0_link 28 = .ok (.ireturn, 1) := by decide +kernel
theorem dX0_link_29 : decode cX0_link 29 = .ok (.iload_n 1, 1) := by decide +kernel
theorem dX0_link_30 : decode cX0_link 30 = .ok (.iload_n 2, 1) := by decide +kernel
theorem dX0_link_31 : decode cX0_link 31 = .ok (.invokestatic 62, 3) := by decide +kernel
theorem dX0_link_34 : decode cX0_link 34 = .ok (.istore 4, 2) := by decide +kernel
theorem dX0_link_36 : decode cX0_link 36 = .ok (.aload_n 0, 1) := by decide +kernel
theorem dX0_link_37 : decode cX0_link 37 = .ok (.getfield 19, 3) := by decide +kernel
theorem dX0_link_40 : decode cX0_link 40 = .ok (.iload 4, 2) := by decide +kernel
theorem dX0_link_42 : decode cX0_link 42 = .ok (.iaload, 1) := by decide +kernel
theorem dX0_link_43 : decode cX0_link 43 = .ok (.istore 5, 2) := by decide +kernel
theorem dX0_link_45 : decode cX0_link 45 = .ok (.aload_n 0, 1) := by decide +kernel
theorem dX0_link_46 : decode cX0_link 46 = .ok (.getfield 19, 3) := by decide +kernel
theorem dX0_link_49 : decode cX0_link 49 = .ok (.iload 4, 2) := by decide +kernel
theorem dX0_link_51 : decode cX0_link 51 = .ok (.iload_n 3, 1) := by decide +kernel
theorem dX0_link_52 : decode cX0_link 52 = .ok (.ifCond .eq 7, 3) := by decide +kernel
theorem dX0_link_55 : decode cX0_link 55 = .ok (.iconst 1, 1) := by decide +kernel
theorem dX0_link_56 : decode cX0_link 56 = .ok (.goto 4, 3) := by decide +kernel
theorem dX0_link_59 : decode cX0_link 59 = .ok (.iconst 0, 1) := by decide +kernel
theorem dX0_link_60 : decode cX0_link 60 = .ok (.iastore, 1) := by decide +kernel
theorem dX0_link_61 : decode cX0_link 61 = .ok (.aload_n 0, 1) := by decide +kernel
theorem dX0_link_62 : decode cX0_link 62 = .ok (.iconst 0, 1) := by decide +kernel
theorem dX0_link_63 : decode cX0_link 63 = .ok (.putfield 35, 3) := by decide +kernel
theorem dX0_link_66 : decode cX0_link 66 = .ok (.iload 5, 2) := by decide +kernel
theorem dX0_link_68 : decode cX0_link 68 = .ok (.ireturn, 1) := by decide +kernel
set_option maxRecDepth 20000 in
theorem ggX0_set_X0_isVariable : GoodIn wsX0_set wsX0_isVariable := goodIn_r _ [5] (by decide +kernel) (by decide +kernel)
set_option maxRecDepth 20000 in
theorem gX0_set_X0_isVariable : GoodIn wsX0_set (va_wsS RX0 52 yX0_isVariable wsX0_isVariable) := goodIn_app (goodIn_of _ (by decide +kernel)) ggX0_set_X0_isVariable
theorem dX0_set_0 : decode cX0_set 0 = .ok (.iload_n 1, 1) := by decide +kernel
theorem dX0_set_1 : decode cX0_set 1 = .ok (.invokestatic 52, 3) := by decide +kernel
theorem dX0_set_4 : decode cX0_set 4 = .ok (.ifCond .eq 12, 3) := by decide +kernel
theorem dX0_set_7 : decode cX0_set 7 = .ok (.iload_n 2, 1) := by decide +kernel
theorem dX0_set_8 : decode cX0_set 8 = .ok (.ifCond .lt 8, 3) := by decide +kernel
theorem dX0_set_11 : decode cX0_set 11 = .ok (.iload_n 2, 1) := by decide +kernel
theorem dX0_set_12 : decode cX0_set 12 = .ok (.iconst 1, 1) := by decide +kernel
theorem dX0_set_13 : decode cX0_set 13 = .ok (.if_icmp .le 5, 3) := by decide +kernel
theorem dX0_set_16 : decode cX0_set 16 = .ok (.iconst (-1), 1) := by decide +kernel
theorem dX0_set_17 : decode cX0_set 17 = .ok (.ireturn, 1) := by decide +kernel
theorem dX0_set_18 : decode cX0_set 18 = .ok (.aload_n 0, 1) := by decide +kernel
theorem dX0_set_19 : decode cX0_set 19 = .ok (.getfield 25, 3) := by decide +kernel
theorem dX0_set_22 : decode cX0_set 22 = .ok (.iload_n 1, 1) := by decide +kernel
theorem dX0_set_23 : decode cX0_set 23 = .ok (.iaload, 1) := by decide +kernel
theorem dX0_set_24 : decode cX0_set 24 = .ok (.istore_n 3, 1) := by decide +kernel
theorem dX0_set_25 : decode cX0_set 25 = .ok (.aload_n 0, 1) := by decide +kernel
theorem dX0_set_26 : decode cX0_set 26 = .ok (.getfield 25, 3) := by decide +kernel
theorem dX0_set_29 : decode cX0_set 29 = .ok (.iload_n 1, 1) := by decide +kernel
theorem dX0_set_30 : decode cX0_set 30 = .ok (.iload_n 2, 1) := by decide +kernel
theorem dX0_set_31 : decode cX0_set 31 = .ok (.iastore, 1) := by decide +kernel
theorem dX0_set_32 : decode cX0_set 32 = .ok (.iload_n 3, 1) := by decide +kernel
theorem dX0_set_33 : decode cX0_set 33 = .ok (.ireturn, 1) := by decide +kernel
set_option maxRecDepth 20000 in
theorem ggX0_get_X0_isVariable : GoodIn wsX0_get wsX0_isVariable := goodIn_r _ [5] (by decide +kernel) (by decide +kernel)
set_option maxRecDepth 20000 in
theorem gX0_get_X0_isVariable : GoodIn wsX0_get (va_wsS RX0 52 yX0_isVariable wsX0_isVariable) := goodIn_app (goodIn_of _ (by decide +kernel)) ggX0_get_X0_isVariable
theorem dX0_get_0 : decode cX0_get 0 = .ok (.iload_n 1, 1) := by decide +kernel
theorem dX0_get_1 : decode cX0_get 1 = .ok (.invokestatic 52, 3) := by decide +kernel
theorem dX0_get_4 : decode cX0_get 4 = .ok (.ifCond .eq 12, 3) := by decide +kernel
theorem dX0_get_7 : decode cX0_get 7 = .ok (.aload_n 0, 1) := by decide +kernel
theorem dX0_get_8 : decode cX0_get 8 = .ok (.getfield 25, 3) := by decide +kernel
theorem dX0_get_11 : decode cX0_get 11 = .ok (.iload_n 1, 1) := by decide +kernel
theorem dX0_get_12 : decode cX0_get 12 = .ok (.iaload, 1) := by decide +kernel
theorem dX0_get_13 : decode cX0_get 13 = .ok (.goto 4, 3) := by decide +kernel
theorem dX0_get_16 : decode cX0_get 16 = .ok (.iconst (-1), 1) := by decide +kernel
theorem dX0_get_17 : decode cX0_get 17 = .ok (.ireturn, 1) := by decide +kernel
set_option maxRecDepth 20000 in
theorem ggX0_scan_X0_pointAt : GoodIn wsX0_scan wsX0_pointAt := goodIn_r _ [8] (by decide +kernel) (by decide +kernel)
set_option maxRecDepth 20000 in
theorem gX0_scan_X0_pointAt : GoodIn wsX0_scan (va_wsS RX0 62 yX0_pointAt wsX0_pointAt) := goodIn_app (goodIn_of _ (by decide +kernel)) ggX0_scan_X0_pointAt
set_option maxRecDepth 20000 in
theorem ggX0_scan_X0_passColumn : GoodIn wsX0_scan wsX0_passColumn := goodIn_r _ [12, 1, 13, 14, 2, 15, 16, 17, 18, 7, 19, 5, 6, 8, 20, 21, 22, 38, 39, 40, 41, 42, 43, 44, 45, 46] (by decide +kernel) (by decide +kernel)
set_option maxRecDepth 20000 in
theorem gX0_scan_X0_passColumn : GoodIn wsX0_scan (wsV RX0 65 RX0 yX0_passColumn wsX0_passColumn) := goodIn_app (goodIn_of _ (by decide +kernel)) ggX0_scan_X0_passColumn
set_option maxRecDepth 20000 in
theorem ggX0_scan_X0_shareAlongLinks : GoodIn wsX0_scan wsX0_shareAlongLinks := goodIn_r _ [26, 1, 27, 2, 5, 6, 7, 8, 38, 39, 40, 41, 42, 43, 44, 45, 46] (by decide +kernel) (by decide +kernel)
set_option maxRecDepth 20000 in
theorem gX0_scan_X0_shareAlongLinks : GoodIn wsX0_scan (wsV RX0 69 RX0 yX0_shareAlongLinks wsX0_shareAlongLinks) := goodIn_app (goodIn_of _ (by decide +kernel)) ggX0_scan_X0_shareAlongLinks
set_option maxRecDepth 20000 in
theorem ggX0_scan_X0_driveCoils : GoodIn wsX0_scan wsX0_driveCoils := goodIn_r _ [31, 1, 3, 15, 2, 14, 13, 17, 18, 7, 19, 32, 33, 34, 5, 6, 8, 35, 36, 37, 38, 39, 40, 41, 42, 43, 44, 45, 46] (by decide +kernel) (by decide +kernel)
set_option maxRecDepth 20000 in
theorem gX0_scan_X0_driveCoils : GoodIn wsX0_scan (wsV RX0 72 RX0 yX0_driveCoils wsX0_driveCoils) := goodIn_app (goodIn_of _ (by decide +kernel)) ggX0_scan_X0_driveCoils
theorem dX0_scan_0 : decode cX0_scan 0 = .ok (.iconst 0, 1) := by decide +kernel
theorem dX0_scan_1 : decode cX0_scan 1 = .ok (.istore_n 1, 1) := by decide +kernel
theorem dX0_scan_2 : decode cX0_scan 2 = .ok (.iload_n 1, 1) := by decide +kernel
theorem dX0_scan_3 : decode cX0_scan 3 = .ok (.aload_n 0, 1) := by decide +kernel
theorem dX0_scan_4 : decode cX0_scan 4 = .ok (.getfield 28, 3) := by decide +kernel
theorem dX0_scan_7 : decode cX0_scan 7 = .ok (.if_icmp .ge 20, 3) := by decide +kernel
theorem dX0_scan_10 : decode cX0_scan 10 = .ok (.aload_n 0, 1) := by decide +kernel
theorem dX0_scan_11 : decode cX0_scan 11 = .ok (.getfield 22, 3) := by decide +kernel
theorem dX0_scan_14 : decode cX0_scan 14 = .ok (.iload_n 1, 1) := by decide +kernel
theorem dX0_scan_15 : decode cX0_scan 15 = .ok (.iconst 0, 1) := by decide +kernel
theorem dX0_scan_16 : decode cX0_scan 16 = .ok (.invokestatic 62, 3) := by decide +kernel
theorem dX0_scan_19 : decode cX0_scan 19 = .ok (.iconst 1, 1) := by decide +kernel
theorem dX0_scan_20 : decode cX0_scan 20 = .ok (.iastore, 1) := by decide +kernel
theorem dX0_scan_21 : decode cX0_scan 21 = .ok (.iinc 1 1, 3) := by decide +kernel
theorem dX0_scan_24 : decode cX0_scan 24 = .ok (.goto (-22), 3) := by decide +kernel
theorem dX0_scan_27 : decode cX0_scan 27 = .ok (.iconst 0, 1) := by decide +kernel
theorem dX0_scan_28 : decode cX0_scan 28 = .ok (.istore_n 1, 1) := by decide +kernel
theorem dX0_scan_29 : decode cX0_scan 29 = .ok (.iload_n 1, 1) := by decide +kernel
theorem dX0_scan_30 : decode cX0_scan 30 = .ok (.aload_n 0, 1) := by decide +kernel
theorem dX0_scan_31 : decode cX0_scan 31 = .ok (.getfield 32, 3) := by decide +kernel
theorem dX0_scan_34 : decode cX0_scan 34 = .ok (.if_icmp .ge 21, 3) := by decide +kernel
theorem dX0_scan_37 : decode cX0_scan 37 = .ok (.aload_n 0, 1) := by decide +kernel
theorem dX0_scan_38 : decode cX0_scan 38 = .ok (.iload_n 1, 1) := by decide +kernel
theorem dX0_scan_39 : decode cX0_scan 39 = .ok (.invokevirtual 65, 3) := by decide +kernel
theorem dX0_scan_42 : decode cX0_scan 42 = .ok (.aload_n 0, 1) := by decide +kernel
theorem dX0_scan_43 : decode cX0_scan 43 = .ok (.iload_n 1, 1) := by decide +kernel
theorem dX0_scan_44 : decode cX0_scan 44 = .ok (.iconst 1, 1) := by decide +kernel
theorem dX0_scan_45 : decode cX0_scan 45 = .ok (.iadd, 1) := by decide +kernel
theorem dX0_scan_46 : decode cX0_scan 46 = .ok (.invokevirtual 69, 3) := by decide +kernel
theorem dX0_scan_49 : decode cX0_scan 49 = .ok (.iinc 1 1, 3) := by decide +kernel
theorem dX0_scan_52 : decode cX0_scan 52 = .ok (.goto (-23), 3) := by decide +kernel
theorem dX0_scan_55 : decode cX0_scan 55 = .ok (.aload_n 0, 1) := by decide +kernel
theorem dX0_scan_56 : decode cX0_scan 56 = .ok (.iconst 1, 1) := by decide +kernel
theorem dX0_scan_57 : decode cX0_scan 57 = .ok (.putfield 35, 3) := by decide +kernel
theorem dX0_scan_60 : decode cX0_scan 60 = .ok (.aload_n 0, 1) := by decide +kernel
theorem dX0_scan_61 : decode cX0_scan 61 = .ok (.invokevirtual 72, 3) := by decide +kernel
theorem dX0_scan_64 : decode cX0_scan 64 = .ok (.ireturn, 1) := by decide +kernel
set_option maxRecDepth 20000 in
theorem ggX0_power_X0_isRow : GoodIn wsX0_power wsX0_isRow := goodIn_r _ [9, 10, 24, 25, 26, 27, 28, 29, 30, 31, 32] (by decide +kernel) (by decide +kernel)
set_option maxRecDepth 20000 in
theorem gX0_power_X0_isRow : GoodIn wsX0_power (wsV RX0 45 RX0 yX0_isRow wsX0_isRow) := goodIn_app (goodIn_of _ (by decide +kernel)) ggX0_power_X0_isRow
set_option maxRecDepth 20000 in
theorem ggX0_power_X0_isLine : GoodIn wsX0_power wsX0_isLine := goodIn_r _ [14, 2, 24, 25, 26, 27, 28, 29, 30, 31, 32] (by decide +kernel) (by decide +kernel)
set_option maxRecDepth 20000 in
theorem gX0_power_X0_isLine : GoodIn wsX0_power (wsV RX0 76 RX0 yX0_isLine wsX0_isLine) := goodIn_app (goodIn_of _ (by decide +kernel)) ggX0_power_X0_isLine
set_option maxRecDepth 20000 in
theorem ggX0_power_X0_cellAt : GoodIn wsX0_power wsX0_cellAt := goodIn_r _ [17] (by decide +kernel) (by decide +kernel)
set_option maxRecDepth 20000 in
theorem gX0_power_X0_cellAt : GoodIn wsX0_power (va_wsS RX0 58 yX0_cellAt wsX0_cellAt) := goodIn_app (goodIn_of _ (by decide +kernel)) ggX0_power_X0_cellAt
set_option maxRecDepth 20000 in
theorem ggX0_power_X0_isCoil : GoodIn wsX0_power wsX0_isCoil := goodIn_r _ [20] (by decide +kernel) (by decide +kernel)
set_option maxRecDepth 20000 in
theorem gX0_power_X0_isCoil : GoodIn wsX0_power (va_wsS RX0 55 yX0_isCoil wsX0_isCoil) := goodIn_app (goodIn_of _ (by decide +kernel)) ggX0_power_X0_isCoil
set_option maxRecDepth 20000 in
theorem ggX0_power_X0_pointAt : GoodIn wsX0_power wsX0_pointAt := goodIn_r _ [23] (by decide +kernel) (by decide +kernel)
set_option maxRecDepth 20000 in
theorem gX0_power_X0_pointAt : GoodIn wsX0_power (va_wsS RX0 62 yX0_pointAt wsX0_pointAt) := goodIn_app (goodIn_of _ (by decide +kernel)) ggX0_power_X0_pointAt
theorem dX0_power_0 : decode cX0_power 0 = .ok (.aload_n 0, 1) := by decide +kernel
theorem dX0_power_1 : decode cX0_power 1 = .ok (.iload_n 1, 1) := by decide +kernel
theorem dX0_power_2 : decode cX0_power 2 = .ok (.invokevirtual 45, 3) := by decide +kernel
theorem dX0_power_5 : decode cX0_power 5 = .ok (.ifCond .eq 18, 3) := by decide +kernel
theorem dX0_power_8 : decode cX0_power 8 = .ok (.aload_n 0, 1) := by decide +kernel
theorem dX0_power_9 : decode cX0_power 9 = .ok (.iload_n 2, 1) := by decide +kernel
theorem dX0_power_10 : decode cX0_power 10 = .ok (.invokevirtual 76, 3) := by decide +kernel
theorem dX0_power_13 : decode cX0_power 13 = .ok (.ifCond .eq 10, 3) := by decide +kernel
theorem dX0_power_16 : decode cX0_power 16 = .ok (.aload_n 0, 1) := by decide +kernel
theorem dX0_power_17 : decode cX0_power 17 = .ok (.getfield 35, 3) := by decide +kernel
theorem dX0_power_20 : decode cX0_power 20 = .ok (.ifCond .ne 5, 3) := by decide +kernel
theorem dX0_power_23 : decode cX0_power 23 = .ok (.iconst (-1), 1) := by decide +kernel
theorem dX0_power_24 : decode cX0_power 24 = .ok (.ireturn, 1) := by decide +kernel
theorem dX0_power_25 : decode cX0_power 25 = .ok (.iload_n 2, 1) := by decide +kernel
theorem dX0_power_26 : decode cX0_power 26 = .ok (.aload_n 0, 1) := by decide +kernel
theorem dX0_power_27 : decode cX0_power 27 = .ok (.getfield 32, 3) := by decide +kernel
theorem dX0_power_30 : decode cX0_power 30 = .ok (.if_icmp .ne 26, 3) := by decide +kernel
theorem dX0_power_33 : decode cX0_power 33 = .ok (.aload_n 0, 1) := by decide +kernel
theorem dX0_power_34 : decode cX0_power 34 = .ok (.getfield 9, 3) := by decide +kernel
theorem dX0_power_37 : decode cX0_power 37 = .ok (.iload_n 1, 1) := by decide +kernel
theorem dX0_power_38 : decode cX0_power 38 = .ok (.aload_n 0, 1) := by decide +kernel
theorem dX0_power_39 : decode cX0_power 39 = .ok (.getfield 32, 3) := by decide +kernel
theorem dX0_power_42 : decode cX0_power 42 = .ok (.iconst 1, 1) := by decide +kernel
theorem dX0_power_43 : decode cX0_power 43 = .ok (.isub, 1) := by decide +kernel
theorem dX0_power_44 : decode cX0_power 44 = .ok (.invokestatic 58, 3) := by decide +kernel
theorem dX0_power_47 : decode cX0_power 47 = .ok (.iaload, 1) := by decide +kernel
theorem dX0_power_48 : decode cX0_power 48 = .ok (.invokestatic 55, 3) := by decide +kernel
theorem dX0_power_51 : decode cX0_power 51 = .ok (.ifCond .eq 5, 3) := by decide +kernel
theorem dX0_power_54 : decode cX0_power 54 = .ok (.iconst (-1), 1) := by decide +kernel
theorem dX0_power_55 : decode cX0_power 55 = .ok (.ireturn, 1) := by decide +kernel
theorem dX0_power_56 : decode cX0_power 56 = .ok (.aload_n 0, 1) := by decide +kernel
theorem dX0_power_57 : decode cX0_power 57 = .ok (.getfield 22, 3) := by decide +kernel
theorem dX0_power_60 : decode cX0_power 60 = .ok (.iload_n 1, 1) := by decide +kernel
theorem dX0_power_61 : decode cX0_power 61 = .ok (.iload_n 2, 1) := by decide +kernel
theorem dX0_power_62 : decode cX0_power 62 = .ok (.invokestatic 62, 3) := by decide +kernel
theorem dX0_power_65 : decode cX0_power 65 = .ok (.iaload, 1) := by decide +kernel
theorem dX0_power_66 : decode cX0_power 66 = .ok (.ireturn, 1) := by decide +kernel
set_option maxRecDepth 20000 in
theorem ggX0_steps_X0_lineSteps : GoodIn wsX0_steps wsX0_lineSteps := goodIn_r _ [6, 7, 8, 9, 10, 11, 12, 5, 13, 14, 15, 16, 17, 18, 19, 20, 21, 22, 27, 28, 29, 30, 31, 32, 33, 34, 35] (by decide +kernel) (by decide +kernel)
set_option maxRecDepth 20000 in
theorem gX0_steps_X0_lineSteps : GoodIn wsX0_steps (wsV RX0 79 RX0 yX0_lineSteps wsX0_lineSteps) := goodIn_app (goodIn_of _ (by decide +kernel)) ggX0_steps_X0_lineSteps
set_option maxRecDepth 20000 in
theorem ggX0_steps_X0_coilSteps : GoodIn wsX0_steps wsX0_coilSteps := goodIn_r _ [26, 7, 8, 1, 9, 11, 12, 5, 13, 14, 15, 16, 27, 28, 29, 30, 31, 32, 33, 34, 35] (by decide +kernel) (by decide +kernel)
set_option maxRecDepth 20000 in
theorem gX0_steps_X0_coilSteps : GoodIn wsX0_steps (wsV RX0 83 RX0 yX0_coilSteps wsX0_coilSteps) := goodIn_app (goodIn_of _ (by decide +kernel)) ggX0_steps_X0_coilSteps
theorem dX0_steps_0 : decode cX0_steps 0 = .ok (.iconst 0, 1) := by decide +kernel
theorem dX0_steps_1 : decode cX0_steps 1 = .ok (.istore_n 1, 1) := by decide +kernel
