def RX0 : String := "RowFilters"
def TX0 : u_T := fun k => match k with
  | 0 => ("RowFilters", "bytes", "[I", true)
  | 1 => ("RowFilters", "rowCount", "I", false)
  | 2 => ("RowFilters", "rowLength", "I", false)
  | _ => ("RowFilters", "pointSize", "I", false)
def tyX0 : Nat → FieldType := fun k => match k with
  | 0 => .array .int
  | 1 => .int
  | 2 => .int
  | _ => .int
abbrev wsX00 : List Cond := u_ws RX0 TX0 4
theorem nmX0 : ∀ a, a < 4 → ∀ b, b < 4 → a ≠ b → (TX0 a).2.1 ≠ (TX0 b).2.1 := by decide +kernel
theorem tyX0_ok : ∀ k, k < 4 → parseFieldDescriptor (TX0 k).2.2.1 = some (tyX0 k) := by decide +kernel
abbrev cX0_init : ByteArray := prog_1_method_1_code
def yX0_init : MethodName := ⟨RX0, "<init>", "()V"⟩
abbrev cX0_open : ByteArray := prog_1_method_2_code
def yX0_open : MethodName := ⟨RX0, "open", "(III)V"⟩
abbrev cX0_set : ByteArray := prog_1_method_3_code
def yX0_set : MethodName := ⟨RX0, "set", "(III)I"⟩
abbrev cX0_get : ByteArray := prog_1_method_4_code
def yX0_get : MethodName := ⟨RX0, "get", "(II)I"⟩
abbrev cX0_fill : ByteArray := prog_1_method_5_code
def yX0_fill : MethodName := ⟨RX0, "fill", "(III)V"⟩
abbrev cX0_filter : ByteArray := prog_1_method_6_code
def yX0_filter : MethodName := ⟨RX0, "filter", "(II)V"⟩
abbrev cX0_plain : ByteArray := prog_1_method_7_code
def yX0_plain : MethodName := ⟨RX0, "plain", "(II)V"⟩
abbrev cX0_best : ByteArray := prog_1_method_8_code
def yX0_best : MethodName := ⟨RX0, "best", "()I"⟩
abbrev cX0_undo : ByteArray := prog_1_method_9_code
def yX0_undo : MethodName := ⟨RX0, "undo", "(I)V"⟩
abbrev cX0_hash : ByteArray := prog_1_method_10_code
def yX0_hash : MethodName := ⟨RX0, "hash", "()I"⟩
abbrev cX0_pass : ByteArray := prog_1_method_11_code
def yX0_pass : MethodName := ⟨RX0, "pass", "(IIIZ)I"⟩
abbrev cX0_passOf : ByteArray := prog_1_method_12_code
def yX0_passOf : MethodName := ⟨RX0, "passOf", "(II)I"⟩
abbrev cX0_tellRow : ByteArray := prog_1_method_13_code
def yX0_tellRow : MethodName := ⟨RX0, "tellRow", "(II)V"⟩
abbrev cX0_restoreRow : ByteArray := prog_1_method_14_code
def yX0_restoreRow : MethodName := ⟨RX0, "restoreRow", "(II)V"⟩
abbrev cX0_leastFilter : ByteArray := prog_1_method_15_code
def yX0_leastFilter : MethodName := ⟨RX0, "leastFilter", "(I)I"⟩
abbrev cX0_sumTold : ByteArray := prog_1_method_16_code
def yX0_sumTold : MethodName := ⟨RX0, "sumTold", "(II)I"⟩
abbrev cX0_foretold : ByteArray := prog_1_method_17_code
def yX0_foretold : MethodName := ⟨RX0, "foretold", "(III)I"⟩
abbrev cX0_nearest : ByteArray := prog_1_method_18_code
def yX0_nearest : MethodName := ⟨RX0, "nearest", "(III)I"⟩
abbrev cX0_byteOrZero : ByteArray := prog_1_method_19_code
def yX0_byteOrZero : MethodName := ⟨RX0, "byteOrZero", "(II)I"⟩
abbrev cX0_pointsAlong : ByteArray := prog_1_method_20_code
def yX0_pointsAlong : MethodName := ⟨RX0, "pointsAlong", "(III)I"⟩
abbrev cX0_requireByte : ByteArray := prog_1_method_21_code
def yX0_requireByte : MethodName := ⟨RX0, "requireByte", "(II)V"⟩
abbrev cX0_requireRow : ByteArray := prog_1_method_22_code
def yX0_requireRow : MethodName := ⟨RX0, "requireRow", "(I)V"⟩
abbrev cX0_requireFilter : ByteArray := prog_1_method_23_code
def yX0_requireFilter : MethodName := ⟨RX0, "requireFilter", "(I)V"⟩
abbrev cX0_requireWithin : ByteArray := prog_1_method_24_code
def yX0_requireWithin : MethodName := ⟨RX0, "requireWithin", "(III)V"⟩
def RX1 : String := "RowFiltersModel"
def RJ9 : String := "java/lang/Math"
def TJ9 : u_T := fun k => match k with
  | _ => ("", "", "", false)
def tyJ9 : Nat → FieldType := fun k => match k with
  | _ => .int
abbrev wsJ90 : List Cond := u_ws RJ9 TJ9 0
theorem nmJ9 : ∀ a, a < 0 → ∀ b, b < 0 → a ≠ b → (TJ9 a).2.1 ≠ (TJ9 b).2.1 := by decide +kernel
theorem tyJ9_ok : ∀ k, k < 0 → parseFieldDescriptor (TJ9 k).2.2.1 = some (tyJ9 k) := by decide +kernel
abbrev cJ9_abs_0f7a4 : ByteArray := prog_6_method_59_code
def yJ9_abs_0f7a4 : MethodName := ⟨RJ9, "abs", "(I)I"⟩
abbrev cJ9_min_7cf53 : ByteArray := prog_6_method_69_code
def yJ9_min_7cf53 : MethodName := ⟨RJ9, "min", "(II)I"⟩
def RJ0 : String := "java/lang/String"
def TJ0 : u_T := fun k => match k with
  | _ => ("", "", "", false)
def tyJ0 : Nat → FieldType := fun k => match k with
  | _ => .int
abbrev wsJ00 : List Cond := u_ws RJ0 TJ0 0
theorem nmJ0 : ∀ a, a < 0 → ∀ b, b < 0 → a ≠ b → (TJ0 a).2.1 ≠ (TJ0 b).2.1 := by decide +kernel
theorem tyJ0_ok : ∀ k, k < 0 → parseFieldDescriptor (TJ0 k).2.2.1 = some (tyJ0 k) := by decide +kernel
def RJ7 : String := "java/util/Arrays"
def TJ7 : u_T := fun k => match k with
  | _ => ("", "", "", false)
def tyJ7 : Nat → FieldType := fun k => match k with
  | _ => .int
abbrev wsJ70 : List Cond := u_ws RJ7 TJ7 0
theorem nmJ7 : ∀ a, a < 0 → ∀ b, b < 0 → a ≠ b → (TJ7 a).2.1 ≠ (TJ7 b).2.1 := by decide +kernel
theorem tyJ7_ok : ∀ k, k < 0 → parseFieldDescriptor (TJ7 k).2.2.1 = some (tyJ7 k) := by decide +kernel
abbrev cJ7_fill_53178 : ByteArray := prog_10_method_103_code
def yJ7_fill_53178 : MethodName := ⟨RJ7, "fill", "([II)V"⟩
def wsX0_init : List Cond := .code yX0_init cX0_init 1 none :: ([.methodLink RX0 1 objectInit, .instanceMethod objectInit, .code objectInit ⟨#[0xb1]⟩ 1 none, .arrayClass .int, .fieldLink RX0 9 "RowFilters" "bytes" "[I", .fieldLink RX0 13 "RowFilters" "rowCount" "I", .fieldLink RX0 17 "RowFilters" "rowLength" "I", .fieldLink RX0 20 "RowFilters" "pointSize" "I"] ++ wsX00)
def wsX0_requireWithin : List Cond := .code yX0_requireWithin cX0_requireWithin 3 none :: ([.classLink RX0 94 "java/lang/IllegalArgumentException", .initialized "java/lang/IllegalArgumentException"] ++ (vx_atS RX0 98 "java/lang/IllegalArgumentException" ["java/lang/RuntimeException", "java/lang/Exception"]).filter goodWord)
def wsJ7_fill_53178 : List Cond := .code yJ7_fill_53178 cJ7_fill_53178 4 none :: ([])
def wsX0_open : List Cond := .code yX0_open cX0_open 4 none :: ([.fieldLink RX0 13 "RowFilters" "rowCount" "I", .fieldLink RX0 17 "RowFilters" "rowLength" "I", .fieldLink RX0 20 "RowFilters" "pointSize" "I", .fieldLink RX0 9 "RowFilters" "bytes" "[I", .methodLink RX0 23 yX0_requireWithin, .static yX0_requireWithin, .initialized RX0, .code yX0_requireWithin cX0_requireWithin 3 none, .classLink RX0 94 "java/lang/IllegalArgumentException", .initialized "java/lang/IllegalArgumentException", .methodLink RX0 27 yJ7_fill_53178, .static yJ7_fill_53178, .initialized RJ7, .code yJ7_fill_53178 cJ7_fill_53178 4 none] ++ wsX00 ++ (vx_atS RX0 98 "java/lang/IllegalArgumentException" ["java/lang/RuntimeException", "java/lang/Exception"]).filter goodWord)
def wsX0_requireRow : List Cond := .code yX0_requireRow cX0_requireRow 2 none :: ([.fieldLink RX0 13 "RowFilters" "rowCount" "I", .methodLink RX0 23 yX0_requireWithin, .static yX0_requireWithin, .initialized RX0, .code yX0_requireWithin cX0_requireWithin 3 none, .classLink RX0 94 "java/lang/IllegalArgumentException", .initialized "java/lang/IllegalArgumentException"] ++ wsX00 ++ (vx_atS RX0 98 "java/lang/IllegalArgumentException" ["java/lang/RuntimeException", "java/lang/Exception"]).filter goodWord)
def wsX0_requireByte : List Cond := .code yX0_requireByte cX0_requireByte 3 none :: ([.fieldLink RX0 17 "RowFilters" "rowLength" "I", .methodLink RX0 37 yX0_requireRow, .instanceMethod yX0_requireRow, .selects RX0 yX0_requireRow yX0_requireRow, .initialized RX0, .code yX0_requireRow cX0_requireRow 2 none, .fieldLink RX0 13 "RowFilters" "rowCount" "I", .methodLink RX0 23 yX0_requireWithin, .static yX0_requireWithin, .code yX0_requireWithin cX0_requireWithin 3 none, .classLink RX0 94 "java/lang/IllegalArgumentException", .initialized "java/lang/IllegalArgumentException"] ++ wsX00 ++ (vx_atS RX0 98 "java/lang/IllegalArgumentException" ["java/lang/RuntimeException", "java/lang/Exception"]).filter goodWord)
def wsX0_set : List Cond := .code yX0_set cX0_set 6 (some .int) :: ([.fieldLink RX0 17 "RowFilters" "rowLength" "I", .fieldLink RX0 9 "RowFilters" "bytes" "[I", .methodLink RX0 33 yX0_requireByte, .instanceMethod yX0_requireByte, .selects RX0 yX0_requireByte yX0_requireByte, .initialized RX0, .code yX0_requireByte cX0_requireByte 3 none, .methodLink RX0 37 yX0_requireRow, .instanceMethod yX0_requireRow, .selects RX0 yX0_requireRow yX0_requireRow, .code yX0_requireRow cX0_requireRow 2 none, .fieldLink RX0 13 "RowFilters" "rowCount" "I", .methodLink RX0 23 yX0_requireWithin, .static yX0_requireWithin, .code yX0_requireWithin cX0_requireWithin 3 none, .classLink RX0 94 "java/lang/IllegalArgumentException", .initialized "java/lang/IllegalArgumentException"] ++ wsX00 ++ (vx_atS RX0 98 "java/lang/IllegalArgumentException" ["java/lang/RuntimeException", "java/lang/Exception"]).filter goodWord)
def wsX0_get : List Cond := .code yX0_get cX0_get 3 (some .int) :: ([.fieldLink RX0 9 "RowFilters" "bytes" "[I", .fieldLink RX0 17 "RowFilters" "rowLength" "I", .methodLink RX0 33 yX0_requireByte, .instanceMethod yX0_requireByte, .selects RX0 yX0_requireByte yX0_requireByte, .initialized RX0, .code yX0_requireByte cX0_requireByte 3 none, .methodLink RX0 37 yX0_requireRow, .instanceMethod yX0_requireRow, .selects RX0 yX0_requireRow yX0_requireRow, .code yX0_requireRow cX0_requireRow 2 none, .fieldLink RX0 13 "RowFilters" "rowCount" "I", .methodLink RX0 23 yX0_requireWithin, .static yX0_requireWithin, .code yX0_requireWithin cX0_requireWithin 3 none, .classLink RX0 94 "java/lang/IllegalArgumentException", .initialized "java/lang/IllegalArgumentException"] ++ wsX00 ++ (vx_atS RX0 98 "java/lang/IllegalArgumentException" ["java/lang/RuntimeException", "java/lang/Exception"]).filter goodWord)
def wsX0_fill : List Cond := .code yX0_fill cX0_fill 6 none :: ([.fieldLink RX0 13 "RowFilters" "rowCount" "I", .fieldLink RX0 17 "RowFilters" "rowLength" "I", .fieldLink RX0 9 "RowFilters" "bytes" "[I"] ++ wsX00)
def wsX0_requireFilter : List Cond := .code yX0_requireFilter cX0_requireFilter 1 none :: ([.methodLink RX0 23 yX0_requireWithin, .static yX0_requireWithin, .initialized RX0, .code yX0_requireWithin cX0_requireWithin 3 none, .classLink RX0 94 "java/lang/IllegalArgumentException", .initialized "java/lang/IllegalArgumentException"] ++ (vx_atS RX0 98 "java/lang/IllegalArgumentException" ["java/lang/RuntimeException", "java/lang/Exception"]).filter goodWord)
def wsX0_byteOrZero : List Cond := .code yX0_byteOrZero cX0_byteOrZero 3 (some .int) :: ([.fieldLink RX0 9 "RowFilters" "bytes" "[I", .fieldLink RX0 17 "RowFilters" "rowLength" "I"] ++ wsX00)
def wsX0_nearest : List Cond := .code yX0_nearest cX0_nearest 7 (some .int) :: ([.methodLink RX0 88 Lib.Math.abs.name, .static Lib.Math.abs.name, .initialized "java/lang/Math", .code Lib.Math.abs.name Lib.Math.abs.code 1 (some .int)])
def wsX0_foretold : List Cond := .code yX0_foretold cX0_foretold 6 (some .int) :: ([.fieldLink RX0 20 "RowFilters" "pointSize" "I", .methodLink RX0 85 yX0_byteOrZero, .instanceMethod yX0_byteOrZero, .selects RX0 yX0_byteOrZero yX0_byteOrZero, .initialized RX0, .code yX0_byteOrZero cX0_byteOrZero 3 (some .int), .fieldLink RX0 9 "RowFilters" "bytes" "[I", .fieldLink RX0 17 "RowFilters" "rowLength" "I", .methodLink RX0 91 yX0_nearest, .static yX0_nearest, .code yX0_nearest cX0_nearest 7 (some .int), .methodLink RX0 88 Lib.Math.abs.name, .static Lib.Math.abs.name, .initialized "java/lang/Math", .code Lib.Math.abs.name Lib.Math.abs.code 1 (some .int)] ++ wsX00)
def wsX0_tellRow : List Cond := .code yX0_tellRow cX0_tellRow 5 none :: ([.fieldLink RX0 17 "RowFilters" "rowLength" "I", .fieldLink RX0 9 "RowFilters" "bytes" "[I", .methodLink RX0 79 yX0_foretold, .instanceMethod yX0_foretold, .selects RX0 yX0_foretold yX0_foretold, .initialized RX0, .code yX0_foretold cX0_foretold 6 (some .int), .fieldLink RX0 20 "RowFilters" "pointSize" "I", .methodLink RX0 85 yX0_byteOrZero, .instanceMethod yX0_byteOrZero, .selects RX0 yX0_byteOrZero yX0_byteOrZero, .code yX0_byteOrZero cX0_byteOrZero 3 (some .int), .methodLink RX0 91 yX0_nearest, .static yX0_nearest, .code yX0_nearest cX0_nearest 7 (some .int), .methodLink RX0 88 Lib.Math.abs.name, .static Lib.Math.abs.name, .initialized "java/lang/Math", .code Lib.Math.abs.name Lib.Math.abs.code 1 (some .int)] ++ wsX00)
def wsX0_filter_r1 : List Cond := [Cond.methodLink RX0 37 yX0_requireRow, Cond.instanceMethod yX0_requireRow, Cond.selects RX0 yX0_requireRow yX0_requireRow, Cond.initialized RX0, Cond.code yX0_requireRow cX0_requireRow 2 none, Cond.fieldLink RX0 13 "RowFilters" "rowCount" "I", Cond.methodLink RX0 23 yX0_requireWithin, Cond.static yX0_requireWithin, Cond.code yX0_requireWithin cX0_requireWithin 3 none, Cond.classLink RX0 94 "java/lang/IllegalArgumentException", Cond.initialized "java/lang/IllegalArgumentException", Cond.methodLink RX0 41 yX0_requireFilter, Cond.static yX0_requireFilter, Cond.code yX0_requireFilter cX0_requireFilter 1 none, Cond.methodLink RX0 44 yX0_tellRow, Cond.instanceMethod yX0_tellRow, Cond.selects RX0 yX0_tellRow yX0_tellRow, Cond.code yX0_tellRow cX0_tellRow 5 none, Cond.fieldLink RX0 17 "RowFilters" "rowLength" "I", Cond.fieldLink RX0 9 "RowFilters" "bytes" "[I", Cond.methodLink RX0 79 yX0_foretold, Cond.instanceMethod yX0_foretold, Cond.selects RX0 yX0_foretold yX0_foretold, Cond.code yX0_foretold cX0_foretold 6 (some .int)]
def wsX0_filter_r2 : List Cond := [Cond.fieldLink RX0 20 "RowFilters" "pointSize" "I", Cond.methodLink RX0 85 yX0_byteOrZero, Cond.instanceMethod yX0_byteOrZero, Cond.selects RX0 yX0_byteOrZero yX0_byteOrZero, Cond.code yX0_byteOrZero cX0_byteOrZero 3 (some .int), Cond.methodLink RX0 91 yX0_nearest, Cond.static yX0_nearest, Cond.code yX0_nearest cX0_nearest 7 (some .int), Cond.methodLink RX0 88 Lib.Math.abs.name, Cond.static Lib.Math.abs.name, Cond.initialized "java/lang/Math", Cond.code Lib.Math.abs.name Lib.Math.abs.code 1 (some .int)]
def wsX0_filter : List Cond := .code yX0_filter cX0_filter 3 none :: ((wsX0_filter_r1 ++ wsX0_filter_r2) ++ wsX00 ++ (vx_atS RX0 98 "java/lang/IllegalArgumentException" ["java/lang/RuntimeException", "java/lang/Exception"]).filter goodWord)
def wsX0_restoreRow : List Cond := .code yX0_restoreRow cX0_restoreRow 5 none :: ([.fieldLink RX0 17 "RowFilters" "rowLength" "I", .fieldLink RX0 9 "RowFilters" "bytes" "[I", .methodLink RX0 79 yX0_foretold, .instanceMethod yX0_foretold, .selects RX0 yX0_foretold yX0_foretold, .initialized RX0, .code yX0_foretold cX0_foretold 6 (some .int), .fieldLink RX0 20 "RowFilters" "pointSize" "I", .methodLink RX0 85 yX0_byteOrZero, .instanceMethod yX0_byteOrZero, .selects RX0 yX0_byteOrZero yX0_byteOrZero, .code yX0_byteOrZero cX0_byteOrZero 3 (some .int), .methodLink RX0 91 yX0_nearest, .static yX0_nearest, .code yX0_nearest cX0_nearest 7 (some .int), .methodLink RX0 88 Lib.Math.abs.name, .static Lib.Math.abs.name, .initialized "java/lang/Math", .code Lib.Math.abs.name Lib.Math.abs.code 1 (some .int)] ++ wsX00)
def wsX0_plain_r1 : List Cond := [Cond.methodLink RX0 37 yX0_requireRow, Cond.instanceMethod yX0_requireRow, Cond.selects RX0 yX0_requireRow yX0_requireRow, Cond.initialized RX0, Cond.code yX0_requireRow cX0_requireRow 2 none, Cond.fieldLink RX0 13 "RowFilters" "rowCount" "I", Cond.methodLink RX0 23 yX0_requireWithin, Cond.static yX0_requireWithin, Cond.code yX0_requireWithin cX0_requireWithin 3 none, Cond.classLink RX0 94 "java/lang/IllegalArgumentException", Cond.initialized "java/lang/IllegalArgumentException", Cond.methodLink RX0 41 yX0_requireFilter, Cond.static yX0_requireFilter, Cond.code yX0_requireFilter cX0_requireFilter 1 none, Cond.methodLink RX0 47 yX0_restoreRow, Cond.instanceMethod yX0_restoreRow, Cond.selects RX0 yX0_restoreRow yX0_restoreRow, Cond.code yX0_restoreRow cX0_restoreRow 5 none, Cond.fieldLink RX0 17 "RowFilters" "rowLength" "I", Cond.fieldLink RX0 9 "RowFilters" "bytes" "[I", Cond.methodLink RX0 79 yX0_foretold, Cond.instanceMethod yX0_foretold, Cond.selects RX0 yX0_foretold yX0_foretold, Cond.code yX0_foretold cX0_foretold 6 (some .int)]
def wsX0_plain_r2 : List Cond := [Cond.fieldLink RX0 20 "RowFilters" "pointSize" "I", Cond.methodLink RX0 85 yX0_byteOrZero, Cond.instanceMethod yX0_byteOrZero, Cond.selects RX0 yX0_byteOrZero yX0_byteOrZero, Cond.code yX0_byteOrZero cX0_byteOrZero 3 (some .int), Cond.methodLink RX0 91 yX0_nearest, Cond.static yX0_nearest, Cond.code yX0_nearest cX0_nearest 7 (some .int), Cond.methodLink RX0 88 Lib.Math.abs.name, Cond.static Lib.Math.abs.name, Cond.initialized "java/lang/Math", Cond.code Lib.Math.abs.name Lib.Math.abs.code 1 (some .int)]
def wsX0_plain : List Cond := .code yX0_plain cX0_plain 3 none :: ((wsX0_plain_r1 ++ wsX0_plain_r2) ++ wsX00 ++ (vx_atS RX0 98 "java/lang/IllegalArgumentException" ["java/lang/RuntimeException", "java/lang/Exception"]).filter goodWord)
def wsX0_sumTold : List Cond := .code yX0_sumTold cX0_sumTold 6 (some .int) :: ([.fieldLink RX0 17 "RowFilters" "rowLength" "I", .methodLink RX0 88 Lib.Math.abs.name, .static Lib.Math.abs.name, .initialized "java/lang/Math", .code Lib.Math.abs.name Lib.Math.abs.code 1 (some .int), .methodLink RX0 85 yX0_byteOrZero, .instanceMethod yX0_byteOrZero, .selects RX0 yX0_byteOrZero yX0_byteOrZero, .initialized RX0, .code yX0_byteOrZero cX0_byteOrZero 3 (some .int), .fieldLink RX0 9 "RowFilters" "bytes" "[I", .methodLink RX0 79 yX0_foretold, .instanceMethod yX0_foretold, .selects RX0 yX0_foretold yX0_foretold, .code yX0_foretold cX0_foretold 6 (some .int), .fieldLink RX0 20 "RowFilters" "pointSize" "I", .methodLink RX0 91 yX0_nearest, .static yX0_nearest, .code yX0_nearest cX0_nearest 7 (some .int)] ++ wsX00)
def wsX0_leastFilter : List Cond := .code yX0_leastFilter cX0_leastFilter 6 (some .int) :: ([.methodLink RX0 82 yX0_sumTold, .instanceMethod yX0_sumTold, .selects RX0 yX0_sumTold yX0_sumTold, .initialized RX0, .code yX0_sumTold cX0_sumTold 6 (some .int), .fieldLink RX0 17 "RowFilters" "rowLength" "I", .methodLink RX0 88 Lib.Math.abs.name, .static Lib.Math.abs.name, .initialized "java/lang/Math", .code Lib.Math.abs.name Lib.Math.abs.code 1 (some .int), .methodLink RX0 85 yX0_byteOrZero, .instanceMethod yX0_byteOrZero, .selects RX0 yX0_byteOrZero yX0_byteOrZero, .code yX0_byteOrZero cX0_byteOrZero 3 (some .int), .fieldLink RX0 9 "RowFilters" "bytes" "[I", .methodLink RX0 79 yX0_foretold, .instanceMethod yX0_foretold, .selects RX0 yX0_foretold yX0_foretold, .code yX0_foretold cX0_foretold 6 (some .int), .fieldLink RX0 20 "RowFilters" "pointSize" "I", .methodLink RX0 91 yX0_nearest, .static yX0_nearest, .code yX0_nearest cX0_nearest 7 (some .int)] ++ wsX00)
def wsX0_best_r1 : List Cond := [Cond.fieldLink RX0 13 "RowFilters" "rowCount" "I", Cond.methodLink RX0 50 yX0_leastFilter, Cond.instanceMethod yX0_leastFilter, Cond.selects RX0 yX0_leastFilter yX0_leastFilter, Cond.initialized RX0, Cond.code yX0_leastFilter cX0_leastFilter 6 (some .int), Cond.methodLink RX0 82 yX0_sumTold, Cond.instanceMethod yX0_sumTold, Cond.selects RX0 yX0_sumTold yX0_sumTold, Cond.code yX0_sumTold cX0_sumTold 6 (some .int), Cond.fieldLink RX0 17 "RowFilters" "rowLength" "I", Cond.methodLink RX0 88 Lib.Math.abs.name, Cond.static Lib.Math.abs.name, Cond.initialized "java/lang/Math", Cond.code Lib.Math.abs.name Lib.Math.abs.code 1 (some .int), Cond.methodLink RX0 85 yX0_byteOrZero, Cond.instanceMethod yX0_byteOrZero, Cond.selects RX0 yX0_byteOrZero yX0_byteOrZero, Cond.code yX0_byteOrZero cX0_byteOrZero 3 (some .int), Cond.fieldLink RX0 9 "RowFilters" "bytes" "[I", Cond.methodLink RX0 79 yX0_foretold, Cond.instanceMethod yX0_foretold, Cond.selects RX0 yX0_foretold yX0_foretold, Cond.code yX0_foretold cX0_foretold 6 (some .int)]
def wsX0_best_r2 : List Cond := [Cond.fieldLink RX0 20 "RowFilters" "pointSize" "I", Cond.methodLink RX0 91 yX0_nearest, Cond.static yX0_nearest, Cond.code yX0_nearest cX0_nearest 7 (some .int), Cond.methodLink RX0 44 yX0_tellRow, Cond.instanceMethod yX0_tellRow, Cond.selects RX0 yX0_tellRow yX0_tellRow, Cond.code yX0_tellRow cX0_tellRow 5 none]
def wsX0_best : List Cond := .code yX0_best cX0_best 5 (some .int) :: ((wsX0_best_r1 ++ wsX0_best_r2) ++ wsX00)
def wsX0_undo_r1 : List Cond := [Cond.constant RX0 54 (390624), Cond.fieldLink RX0 13 "RowFilters" "rowCount" "I", Cond.methodLink RX0 55 Lib.Math.min.name, Cond.static Lib.Math.min.name, Cond.initialized "java/lang/Math", Cond.code Lib.Math.min.name Lib.Math.min.code 2 (some .int), Cond.methodLink RX0 23 yX0_requireWithin, Cond.static yX0_requireWithin, Cond.initialized RX0, Cond.code yX0_requireWithin cX0_requireWithin 3 none, Cond.classLink RX0 94 "java/lang/IllegalArgumentException", Cond.initialized "java/lang/IllegalArgumentException", Cond.methodLink RX0 47 yX0_restoreRow, Cond.instanceMethod yX0_restoreRow, Cond.selects RX0 yX0_restoreRow yX0_restoreRow, Cond.code yX0_restoreRow cX0_restoreRow 5 none, Cond.fieldLink RX0 17 "RowFilters" "rowLength" "I", Cond.fieldLink RX0 9 "RowFilters" "bytes" "[I", Cond.methodLink RX0 79 yX0_foretold, Cond.instanceMethod yX0_foretold, Cond.selects RX0 yX0_foretold yX0_foretold, Cond.code yX0_foretold cX0_foretold 6 (some .int), Cond.fieldLink RX0 20 "RowFilters" "pointSize" "I", Cond.methodLink RX0 85 yX0_byteOrZero]
def wsX0_undo_r2 : List Cond := [Cond.instanceMethod yX0_byteOrZero, Cond.selects RX0 yX0_byteOrZero yX0_byteOrZero, Cond.code yX0_byteOrZero cX0_byteOrZero 3 (some .int), Cond.methodLink RX0 91 yX0_nearest, Cond.static yX0_nearest, Cond.code yX0_nearest cX0_nearest 7 (some .int), Cond.methodLink RX0 88 Lib.Math.abs.name, Cond.static Lib.Math.abs.name, Cond.code Lib.Math.abs.name Lib.Math.abs.code 1 (some .int)]
def wsX0_undo : List Cond := .code yX0_undo cX0_undo 5 none :: ((wsX0_undo_r1 ++ wsX0_undo_r2) ++ wsX00 ++ (vx_atS RX0 98 "java/lang/IllegalArgumentException" ["java/lang/RuntimeException", "java/lang/Exception"]).filter goodWord)
def wsX0_hash : List Cond := .code yX0_hash cX0_hash 4 (some .int) :: ([.fieldLink RX0 13 "RowFilters" "rowCount" "I", .fieldLink RX0 17 "RowFilters" "rowLength" "I", .fieldLink RX0 9 "RowFilters" "bytes" "[I"] ++ wsX00)
def wsX0_pointsAlong : List Cond := .code yX0_pointsAlong cX0_pointsAlong 3 (some .int) :: ([])
def wsX0_pass : List Cond := .code yX0_pass cX0_pass 7 (some .int) :: ([.constant RX0 61 (100000), .fieldLink RX0 62 "RowFilters" "PASS_FROM_X" "[I", .fieldLink RX0 65 "RowFilters" "PASS_STEP_X" "[I", .fieldLink RX0 72 "RowFilters" "PASS_FROM_Y" "[I", .fieldLink RX0 75 "RowFilters" "PASS_STEP_Y" "[I", .methodLink RX0 23 yX0_requireWithin, .static yX0_requireWithin, .initialized RX0, .code yX0_requireWithin cX0_requireWithin 3 none, .classLink RX0 94 "java/lang/IllegalArgumentException", .initialized "java/lang/IllegalArgumentException", .methodLink RX0 68 yX0_pointsAlong, .static yX0_pointsAlong, .code yX0_pointsAlong cX0_pointsAlong 3 (some .int)] ++ (vx_atS RX0 98 "java/lang/IllegalArgumentException" ["java/lang/RuntimeException", "java/lang/Exception"]).filter goodWord)
def wsX0_passOf : List Cond := .code yX0_passOf cX0_passOf 4 (some .int) :: ([.constant RX0 78 (99999), .fieldLink RX0 65 "RowFilters" "PASS_STEP_X" "[I", .fieldLink RX0 62 "RowFilters" "PASS_FROM_X" "[I", .fieldLink RX0 75 "RowFilters" "PASS_STEP_Y" "[I", .fieldLink RX0 72 "RowFilters" "PASS_FROM_Y" "[I", .methodLink RX0 23 yX0_requireWithin, .static yX0_requireWithin, .initialized RX0, .code yX0_requireWithin cX0_requireWithin 3 none, .classLink RX0 94 "java/lang/IllegalArgumentException", .initialized "java/lang/IllegalArgumentException"] ++ (vx_atS RX0 98 "java/lang/IllegalArgumentException" ["java/lang/RuntimeException", "java/lang/Exception"]).filter goodWord)
def wsJ9_abs_0f7a4 : List Cond := .code yJ9_abs_0f7a4 cJ9_abs_0f7a4 1 (some .int) :: ([])
def wsJ9_min_7cf53 : List Cond := .code yJ9_min_7cf53 cJ9_min_7cf53 2 (some .int) :: ([])
set_option maxRecDepth 20000 in
theorem ggX0_open_X0_requireWithin : GoodIn wsX0_open wsX0_requireWithin := goodIn_ca (goodIn_r _ [8, 9, 10] (by decide +kernel) (by decide +kernel)) (goodIn_sub (fun _ h => List.mem_cons_of_mem _ (List.mem_append_right _ h)) (by decide +kernel))
set_option maxRecDepth 20000 in
theorem gX0_open_X0_requireWithin : GoodIn wsX0_open (va_wsS RX0 23 yX0_requireWithin wsX0_requireWithin) := goodIn_app (goodIn_of _ (by decide +kernel)) ggX0_open_X0_requireWithin
set_option maxRecDepth 20000 in
theorem ggX0_open_J7_fill_53178 : GoodIn wsX0_open wsJ7_fill_53178 := goodIn_r _ [14] (by decide +kernel) (by decide +kernel)
set_option maxRecDepth 20000 in
theorem gX0_open_J7_fill_53178 : GoodIn wsX0_open (va_wsS RX0 27 yJ7_fill_53178 wsJ7_fill_53178) := goodIn_app (goodIn_of _ (by decide +kernel)) ggX0_open_J7_fill_53178
set_option maxRecDepth 20000 in
theorem ggX0_set_X0_requireByte : GoodIn wsX0_set wsX0_requireByte := goodIn_ca (goodIn_r _ [7, 1, 8, 9, 10, 6, 11, 12, 13, 14, 15, 16, 17, 18, 19, 20, 21] (by decide +kernel) (by decide +kernel)) (goodIn_sub (fun _ h => List.mem_cons_of_mem _ (List.mem_append_right _ h)) (by decide +kernel))
set_option maxRecDepth 20000 in
theorem gX0_set_X0_requireByte : GoodIn wsX0_set (wsV RX0 33 RX0 yX0_requireByte wsX0_requireByte) := goodIn_app (goodIn_of _ (by decide +kernel)) ggX0_set_X0_requireByte
set_option maxRecDepth 20000 in
theorem ggX0_set_X0_requireWithin : GoodIn wsX0_set wsX0_requireWithin := goodIn_ca (goodIn_r _ [15, 16, 17] (by decide +kernel) (by decide +kernel)) (goodIn_sub (fun _ h => List.mem_cons_of_mem _ (List.mem_append_right _ h)) (by decide +kernel))
set_option maxRecDepth 20000 in
theorem gX0_set_X0_requireWithin : GoodIn wsX0_set (va_wsS RX0 23 yX0_requireWithin wsX0_requireWithin) := goodIn_app (goodIn_of _ (by decide +kernel)) ggX0_set_X0_requireWithin
set_option maxRecDepth 20000 in
theorem ggX0_get_X0_requireByte : GoodIn wsX0_get wsX0_requireByte := goodIn_ca (goodIn_r _ [7, 2, 8, 9, 10, 6, 11, 12, 13, 14, 15, 16, 17, 18, 19, 20, 21] (by decide +kernel) (by decide +kernel)) (goodIn_sub (fun _ h => List.mem_cons_of_mem _ (List.mem_append_right _ h)) (by decide +kernel))
set_option maxRecDepth 20000 in
theorem gX0_get_X0_requireByte : GoodIn wsX0_get (wsV RX0 33 RX0 yX0_requireByte wsX0_requireByte) := goodIn_app (goodIn_of _ (by decide +kernel)) ggX0_get_X0_requireByte
set_option maxRecDepth 20000 in
theorem ggX0_filter_X0_requireRow : GoodIn wsX0_filter wsX0_requireRow := goodIn_ca (goodIn_r _ [5, 6, 7, 8, 4, 9, 10, 11, 37, 38, 39, 40] (by decide +kernel) (by decide +kernel)) (goodIn_sub (fun _ h => List.mem_cons_of_mem _ (List.mem_append_right _ h)) (by decide +kernel))
set_option maxRecDepth 20000 in
theorem gX0_filter_X0_requireRow : GoodIn wsX0_filter (wsV RX0 37 RX0 yX0_requireRow wsX0_requireRow) := goodIn_app (goodIn_of _ (by decide +kernel)) ggX0_filter_X0_requireRow
set_option maxRecDepth 20000 in
theorem ggX0_filter_X0_requireFilter : GoodIn wsX0_filter wsX0_requireFilter := goodIn_ca (goodIn_r _ [14, 7, 8, 4, 9, 10, 11] (by decide +kernel) (by decide +kernel)) (goodIn_sub (fun _ h => List.mem_cons_of_mem _ (List.mem_append_right _ h)) (by decide +kernel))
set_option maxRecDepth 20000 in
theorem gX0_filter_X0_requireFilter : GoodIn wsX0_filter (va_wsS RX0 41 yX0_requireFilter wsX0_requireFilter) := goodIn_app (goodIn_of _ (by decide +kernel)) ggX0_filter_X0_requireFilter
set_option maxRecDepth 20000 in
theorem ggX0_filter_X0_tellRow : GoodIn wsX0_filter wsX0_tellRow := goodIn_r _ [18, 19, 20, 21, 22, 23, 4, 24, 25, 26, 27, 28, 29, 30, 31, 32, 33, 34, 35, 36, 37, 38, 39, 40] (by decide +kernel) (by decide +kernel)
set_option maxRecDepth 20000 in
theorem gX0_filter_X0_tellRow : GoodIn wsX0_filter (wsV RX0 44 RX0 yX0_tellRow wsX0_tellRow) := goodIn_app (goodIn_of _ (by decide +kernel)) ggX0_filter_X0_tellRow
set_option maxRecDepth 20000 in
theorem ggX0_plain_X0_requireRow : GoodIn wsX0_plain wsX0_requireRow := goodIn_ca (goodIn_r _ [5, 6, 7, 8, 4, 9, 10, 11, 37, 38, 39, 40] (by decide +kernel) (by decide +kernel)) (goodIn_sub (fun _ h => List.mem_cons_of_mem _ (List.mem_append_right _ h)) (by decide +kernel))
set_option maxRecDepth 20000 in
theorem gX0_plain_X0_requireRow : GoodIn wsX0_plain (wsV RX0 37 RX0 yX0_requireRow wsX0_requireRow) := goodIn_app (goodIn_of _ (by decide +kernel)) ggX0_plain_X0_requireRow
set_option maxRecDepth 20000 in
theorem ggX0_plain_X0_requireFilter : GoodIn wsX0_plain wsX0_requireFilter := goodIn_ca (goodIn_r _ [14, 7, 8, 4, 9, 10, 11] (by decide +kernel) (by decide +kernel)) (goodIn_sub (fun _ h => List.mem_cons_of_mem _ (List.mem_append_right _ h)) (by decide +kernel))
set_option maxRecDepth 20000 in
theorem gX0_plain_X0_requireFilter : GoodIn wsX0_plain (va_wsS RX0 41 yX0_requireFilter wsX0_requireFilter) := goodIn_app (goodIn_of _ (by decide +kernel)) ggX0_plain_X0_requireFilter
set_option maxRecDepth 20000 in
theorem ggX0_plain_X0_restoreRow : GoodIn wsX0_plain wsX0_restoreRow := goodIn_r _ [18, 19, 20, 21, 22, 23, 4, 24, 25, 26, 27, 28, 29, 30, 31, 32, 33, 34, 35, 36, 37, 38, 39, 40] (by decide +kernel) (by decide +kernel)
set_option maxRecDepth 20000 in
theorem gX0_plain_X0_restoreRow : GoodIn wsX0_plain (wsV RX0 47 RX0 yX0_restoreRow wsX0_restoreRow) := goodIn_app (goodIn_of _ (by decide +kernel)) ggX0_plain_X0_restoreRow
set_option maxRecDepth 20000 in
theorem ggX0_best_X0_leastFilter : GoodIn wsX0_best wsX0_leastFilter := goodIn_r _ [6, 7, 8, 9, 5, 10, 11, 12, 13, 14, 15, 16, 17, 18, 19, 20, 21, 22, 23, 24, 25, 26, 27, 28, 33, 34, 35, 36] (by decide +kernel) (by decide +kernel)
set_option maxRecDepth 20000 in
theorem gX0_best_X0_leastFilter : GoodIn wsX0_best (wsV RX0 50 RX0 yX0_leastFilter wsX0_leastFilter) := goodIn_app (goodIn_of _ (by decide +kernel)) ggX0_best_X0_leastFilter
set_option maxRecDepth 20000 in
theorem ggX0_best_X0_tellRow : GoodIn wsX0_best wsX0_tellRow := goodIn_r _ [32, 11, 20, 21, 22, 23, 5, 24, 25, 16, 17, 18, 19, 26, 27, 28, 12, 13, 14, 15, 33, 34, 35, 36] (by decide +kernel) (by decide +kernel)
set_option maxRecDepth 20000 in
theorem gX0_best_X0_tellRow : GoodIn wsX0_best (wsV RX0 44 RX0 yX0_tellRow wsX0_tellRow) := goodIn_app (goodIn_of _ (by decide +kernel)) ggX0_best_X0_tellRow
set_option maxRecDepth 20000 in
theorem ggX0_undo_X0_requireWithin : GoodIn wsX0_undo wsX0_requireWithin := goodIn_ca (goodIn_r _ [10, 11, 12] (by decide +kernel) (by decide +kernel)) (goodIn_sub (fun _ h => List.mem_cons_of_mem _ (List.mem_append_right _ h)) (by decide +kernel))
set_option maxRecDepth 20000 in
theorem gX0_undo_X0_requireWithin : GoodIn wsX0_undo (va_wsS RX0 23 yX0_requireWithin wsX0_requireWithin) := goodIn_app (goodIn_of _ (by decide +kernel)) ggX0_undo_X0_requireWithin
set_option maxRecDepth 20000 in
theorem ggX0_undo_X0_restoreRow : GoodIn wsX0_undo wsX0_restoreRow := goodIn_r _ [16, 17, 18, 19, 20, 21, 9, 22, 23, 24, 25, 26, 27, 28, 29, 30, 31, 32, 5, 33, 34, 35, 36, 37] (by decide +kernel) (by decide +kernel)
set_option maxRecDepth 20000 in
theorem gX0_undo_X0_restoreRow : GoodIn wsX0_undo (wsV RX0 47 RX0 yX0_restoreRow wsX0_restoreRow) := goodIn_app (goodIn_of _ (by decide +kernel)) ggX0_undo_X0_restoreRow
set_option maxRecDepth 20000 in
theorem ggX0_pass_X0_requireWithin : GoodIn wsX0_pass wsX0_requireWithin := goodIn_ca (goodIn_r _ [9, 10, 11] (by decide +kernel) (by decide +kernel)) (goodIn_sub (fun _ h => List.mem_cons_of_mem _ (List.mem_append_right _ h)) (by decide +kernel))
set_option maxRecDepth 20000 in
theorem gX0_pass_X0_requireWithin : GoodIn wsX0_pass (va_wsS RX0 23 yX0_requireWithin wsX0_requireWithin) := goodIn_app (goodIn_of _ (by decide +kernel)) ggX0_pass_X0_requireWithin
set_option maxRecDepth 20000 in
theorem ggX0_pass_X0_pointsAlong : GoodIn wsX0_pass wsX0_pointsAlong := goodIn_r _ [14] (by decide +kernel) (by decide +kernel)
set_option maxRecDepth 20000 in
theorem gX0_pass_X0_pointsAlong : GoodIn wsX0_pass (va_wsS RX0 68 yX0_pointsAlong wsX0_pointsAlong) := goodIn_app (goodIn_of _ (by decide +kernel)) ggX0_pass_X0_pointsAlong
set_option maxRecDepth 20000 in
theorem ggX0_passOf_X0_requireWithin : GoodIn wsX0_passOf wsX0_requireWithin := goodIn_ca (goodIn_r _ [9, 10, 11] (by decide +kernel) (by decide +kernel)) (goodIn_sub (fun _ h => List.mem_cons_of_mem _ (List.mem_append_right _ h)) (by decide +kernel))
set_option maxRecDepth 20000 in
theorem gX0_passOf_X0_requireWithin : GoodIn wsX0_passOf (va_wsS RX0 23 yX0_requireWithin wsX0_requireWithin) := goodIn_app (goodIn_of _ (by decide +kernel)) ggX0_passOf_X0_requireWithin
set_option maxRecDepth 20000 in
theorem ggX0_tellRow_X0_foretold : GoodIn wsX0_tellRow wsX0_foretold := goodIn_r _ [7, 8, 9, 10, 11, 6, 12, 2, 1, 13, 14, 15, 16, 17, 18, 19, 20, 21, 22, 23] (by decide +kernel) (by decide +kernel)
set_option maxRecDepth 20000 in
theorem gX0_tellRow_X0_foretold : GoodIn wsX0_tellRow (wsV RX0 79 RX0 yX0_foretold wsX0_foretold) := goodIn_app (goodIn_of _ (by decide +kernel)) ggX0_tellRow_X0_foretold
set_option maxRecDepth 20000 in
theorem ggX0_restoreRow_X0_foretold : GoodIn wsX0_restoreRow wsX0_foretold := goodIn_r _ [7, 8, 9, 10, 11, 6, 12, 2, 1, 13, 14, 15, 16, 17, 18, 19, 20, 21, 22, 23] (by decide +kernel) (by decide +kernel)
set_option maxRecDepth 20000 in
theorem gX0_restoreRow_X0_foretold : GoodIn wsX0_restoreRow (wsV RX0 79 RX0 yX0_foretold wsX0_foretold) := goodIn_app (goodIn_of _ (by decide +kernel)) ggX0_restoreRow_X0_foretold
set_option maxRecDepth 20000 in
theorem ggX0_leastFilter_X0_sumTold : GoodIn wsX0_leastFilter wsX0_sumTold := goodIn_r _ [5, 6, 7, 8, 9, 10, 11, 12, 13, 4, 14, 15, 16, 17, 18, 19, 20, 21, 22, 23, 24, 25, 26, 27] (by decide +kernel) (by decide +kernel)
set_option maxRecDepth 20000 in
theorem gX0_leastFilter_X0_sumTold : GoodIn wsX0_leastFilter (wsV RX0 82 RX0 yX0_sumTold wsX0_sumTold) := goodIn_app (goodIn_of _ (by decide +kernel)) ggX0_leastFilter_X0_sumTold
set_option maxRecDepth 20000 in
theorem ggX0_sumTold_X0_byteOrZero : GoodIn wsX0_sumTold wsX0_byteOrZero := goodIn_r _ [10, 11, 1, 20, 21, 22, 23] (by decide +kernel) (by decide +kernel)
set_option maxRecDepth 20000 in
theorem gX0_sumTold_X0_byteOrZero : GoodIn wsX0_sumTold (wsV RX0 85 RX0 yX0_byteOrZero wsX0_byteOrZero) := goodIn_app (goodIn_of _ (by decide +kernel)) ggX0_sumTold_X0_byteOrZero
set_option maxRecDepth 20000 in
theorem ggX0_sumTold_X0_foretold : GoodIn wsX0_sumTold wsX0_foretold := goodIn_r _ [15, 16, 6, 7, 8, 9, 10, 11, 1, 17, 18, 19, 2, 3, 4, 5, 20, 21, 22, 23] (by decide +kernel) (by decide +kernel)
set_option maxRecDepth 20000 in
theorem gX0_sumTold_X0_foretold : GoodIn wsX0_sumTold (wsV RX0 79 RX0 yX0_foretold wsX0_foretold) := goodIn_app (goodIn_of _ (by decide +kernel)) ggX0_sumTold_X0_foretold
set_option maxRecDepth 20000 in
theorem ggX0_foretold_X0_byteOrZero : GoodIn wsX0_foretold wsX0_byteOrZero := goodIn_r _ [6, 7, 8, 16, 17, 18, 19] (by decide +kernel) (by decide +kernel)
set_option maxRecDepth 20000 in
theorem gX0_foretold_X0_byteOrZero : GoodIn wsX0_foretold (wsV RX0 85 RX0 yX0_byteOrZero wsX0_byteOrZero) := goodIn_app (goodIn_of _ (by decide +kernel)) ggX0_foretold_X0_byteOrZero
set_option maxRecDepth 20000 in
theorem ggX0_foretold_X0_nearest : GoodIn wsX0_foretold wsX0_nearest := goodIn_r _ [11, 12, 13, 14, 15] (by decide +kernel) (by decide +kernel)
set_option maxRecDepth 20000 in
theorem gX0_foretold_X0_nearest : GoodIn wsX0_foretold (va_wsS RX0 91 yX0_nearest wsX0_nearest) := goodIn_app (goodIn_of _ (by decide +kernel)) ggX0_foretold_X0_nearest
set_option maxRecDepth 20000 in
theorem ggX0_requireByte_X0_requireRow : GoodIn wsX0_requireByte wsX0_requireRow := goodIn_ca (goodIn_r _ [6, 7, 8, 9, 5, 10, 11, 12, 13, 14, 15, 16] (by decide +kernel) (by decide +kernel)) (goodIn_sub (fun _ h => List.mem_cons_of_mem _ (List.mem_append_right _ h)) (by decide +kernel))
set_option maxRecDepth 20000 in
theorem gX0_requireByte_X0_requireRow : GoodIn wsX0_requireByte (wsV RX0 37 RX0 yX0_requireRow wsX0_requireRow) := goodIn_app (goodIn_of _ (by decide +kernel)) ggX0_requireByte_X0_requireRow
set_option maxRecDepth 20000 in
theorem ggX0_requireByte_X0_requireWithin : GoodIn wsX0_requireByte wsX0_requireWithin := goodIn_ca (goodIn_r _ [10, 11, 12] (by decide +kernel) (by decide +kernel)) (goodIn_sub (fun _ h => List.mem_cons_of_mem _ (List.mem_append_right _ h)) (by decide +kernel))
set_option maxRecDepth 20000 in
theorem gX0_requireByte_X0_requireWithin : GoodIn wsX0_requireByte (va_wsS RX0 23 yX0_requireWithin wsX0_requireWithin) := goodIn_app (goodIn_of _ (by decide +kernel)) ggX0_requireByte_X0_requireWithin
set_option maxRecDepth 20000 in
theorem ggX0_requireRow_X0_requireWithin : GoodIn wsX0_requireRow wsX0_requireWithin := goodIn_ca (goodIn_r _ [5, 6, 7] (by decide +kernel) (by decide +kernel)) (goodIn_sub (fun _ h => List.mem_cons_of_mem _ (List.mem_append_right _ h)) (by decide +kernel))
set_option maxRecDepth 20000 in
theorem gX0_requireRow_X0_requireWithin : GoodIn wsX0_requireRow (va_wsS RX0 23 yX0_requireWithin wsX0_requireWithin) := goodIn_app (goodIn_of _ (by decide +kernel)) ggX0_requireRow_X0_requireWithin
set_option maxRecDepth 20000 in
theorem ggX0_requireFilter_X0_requireWithin : GoodIn wsX0_requireFilter wsX0_requireWithin := goodIn_ca (goodIn_r _ [4, 5, 6] (by decide +kernel) (by decide +kernel)) (goodIn_sub (fun _ h => List.mem_cons_of_mem _ (List.mem_append_right _ h)) (by decide +kernel))
set_option maxRecDepth 20000 in
theorem gX0_requireFilter_X0_requireWithin : GoodIn wsX0_requireFilter (va_wsS RX0 23 yX0_requireWithin wsX0_requireWithin) := goodIn_app (goodIn_of _ (by decide +kernel)) ggX0_requireFilter_X0_requireWithin
