def TY1 : u_T := fun k => match k with
  | 0 => ("RowFiltersModel", "failed", "I", false)
  | 1 => ("RowFiltersModel", "height", "I", false)
  | 2 => ("RowFiltersModel", "width", "I", false)
  | 3 => ("RowFiltersModel", "step", "I", false)
  | 4 => ("RowFiltersModel", "bytes", "[I", true)
  | _ => ("RowFiltersModel", "told", "[I", true)
def tyY1 : Nat → FieldType := fun k => match k with
  | 0 => .int
  | 1 => .int
  | 2 => .int
  | 3 => .int
  | 4 => .array .int
  | _ => .array .int
abbrev wsY10 : List Cond := u_ws RX1 TY1 6
theorem nmY1 : ∀ a, a < 6 → ∀ b, b < 6 → a ≠ b → (TY1 a).2.1 ≠ (TY1 b).2.1 := by decide +kernel
theorem tyY1_ok : ∀ k, k < 6 → parseFieldDescriptor (TY1 k).2.2.1 = some (tyY1 k) := by decide +kernel
abbrev cY1_init : ByteArray := prog_3_method_1_code
def yY1_init : MethodName := ⟨RX1, "<init>", "()V"⟩
abbrev cY1_thrown : ByteArray := prog_3_method_2_code
def yY1_thrown : MethodName := ⟨RX1, "thrown", "()I"⟩
abbrev cY1_open : ByteArray := prog_3_method_4_code
def yY1_open : MethodName := ⟨RX1, "open", "(III)V"⟩
abbrev cY1_set : ByteArray := prog_3_method_6_code
def yY1_set : MethodName := ⟨RX1, "set", "(III)I"⟩
abbrev cY1_out : ByteArray := prog_3_method_5_code
def yY1_out : MethodName := ⟨RX1, "out", "(II)Z"⟩
abbrev cY1_fail : ByteArray := prog_3_method_3_code
def yY1_fail : MethodName := ⟨RX1, "fail", "(I)I"⟩
abbrev cY1_get : ByteArray := prog_3_method_7_code
def yY1_get : MethodName := ⟨RX1, "get", "(II)I"⟩
abbrev cY1_fill : ByteArray := prog_3_method_8_code
def yY1_fill : MethodName := ⟨RX1, "fill", "(III)V"⟩
abbrev cY1_filter : ByteArray := prog_3_method_14_code
def yY1_filter : MethodName := ⟨RX1, "filter", "(II)V"⟩
abbrev cY1_bad : ByteArray := prog_3_method_13_code
def yY1_bad : MethodName := ⟨RX1, "bad", "(II)Z"⟩
abbrev cY1_tell : ByteArray := prog_3_method_11_code
def yY1_tell : MethodName := ⟨RX1, "tell", "(II)I"⟩
abbrev cY1_guess : ByteArray := prog_3_method_10_code
def yY1_guess : MethodName := ⟨RX1, "guess", "(III)I"⟩
abbrev cY1_at : ByteArray := prog_3_method_9_code
def yY1_at : MethodName := ⟨RX1, "at", "(II)I"⟩
abbrev cY1_plain : ByteArray := prog_3_method_15_code
def yY1_plain : MethodName := ⟨RX1, "plain", "(II)V"⟩
abbrev cY1_untell : ByteArray := prog_3_method_12_code
def yY1_untell : MethodName := ⟨RX1, "untell", "(II)V"⟩
abbrev cY1_best : ByteArray := prog_3_method_16_code
def yY1_best : MethodName := ⟨RX1, "best", "()I"⟩
abbrev cY1_undo : ByteArray := prog_3_method_17_code
def yY1_undo : MethodName := ⟨RX1, "undo", "(I)V"⟩
abbrev cY1_hash : ByteArray := prog_3_method_18_code
def yY1_hash : MethodName := ⟨RX1, "hash", "()I"⟩
abbrev cY1_pass : ByteArray := prog_3_method_19_code
def yY1_pass : MethodName := ⟨RX1, "pass", "(IIIZ)I"⟩
abbrev cY1_column : ByteArray := prog_3_method_20_code
def yY1_column : MethodName := ⟨RX1, "column", "(II)Z"⟩
abbrev cY1_line : ByteArray := prog_3_method_21_code
def yY1_line : MethodName := ⟨RX1, "line", "(II)Z"⟩
abbrev cY1_passOf : ByteArray := prog_3_method_22_code
def yY1_passOf : MethodName := ⟨RX1, "passOf", "(II)I"⟩
def wsY1_init : List Cond := .code yY1_init cY1_init 1 none :: ([.code objectInit ⟨#[0xb1]⟩ 1 none, .methodLink RX1 1 objectInit, .instanceMethod objectInit, .fieldLink RX1 7 "RowFiltersModel" "height" "I", .fieldLink RX1 13 "RowFiltersModel" "width" "I", .fieldLink RX1 16 "RowFiltersModel" "step" "I", .arrayClass .int, .fieldLink RX1 19 "RowFiltersModel" "bytes" "[I", .fieldLink RX1 23 "RowFiltersModel" "told" "[I"] ++ wsY10)
def wsY1_thrown : List Cond := .code yY1_thrown cY1_thrown 1 (some .int) :: ([.fieldLink RX1 26 "RowFiltersModel" "failed" "I"] ++ wsY10)
def wsY1_open : List Cond := .code yY1_open cY1_open 5 none :: ([.fieldLink RX1 26 "RowFiltersModel" "failed" "I", .fieldLink RX1 7 "RowFiltersModel" "height" "I", .fieldLink RX1 13 "RowFiltersModel" "width" "I", .fieldLink RX1 16 "RowFiltersModel" "step" "I", .fieldLink RX1 19 "RowFiltersModel" "bytes" "[I"] ++ wsY10)
def wsY1_out : List Cond := .code yY1_out cY1_out 3 (some .boolean) :: ([.fieldLink RX1 7 "RowFiltersModel" "height" "I", .fieldLink RX1 13 "RowFiltersModel" "width" "I"] ++ wsY10)
def wsY1_fail : List Cond := .code yY1_fail cY1_fail 2 (some .int) :: ([.fieldLink RX1 26 "RowFiltersModel" "failed" "I"] ++ wsY10)
def wsY1_set : List Cond := .code yY1_set cY1_set 5 (some .int) :: ([.code yY1_out cY1_out 3 (some .boolean), .code yY1_fail cY1_fail 2 (some .int), .fieldLink RX1 26 "RowFiltersModel" "failed" "I", .methodLink RX1 29 yY1_out, .instanceMethod yY1_out, .selects RX1 yY1_out yY1_out, .initialized RX1, .methodLink RX1 33 yY1_fail, .instanceMethod yY1_fail, .selects RX1 yY1_fail yY1_fail, .fieldLink RX1 19 "RowFiltersModel" "bytes" "[I", .fieldLink RX1 13 "RowFiltersModel" "width" "I", .fieldLink RX1 7 "RowFiltersModel" "height" "I"] ++ wsY10)
def wsY1_get : List Cond := .code yY1_get cY1_get 3 (some .int) :: ([.code yY1_out cY1_out 3 (some .boolean), .code yY1_fail cY1_fail 2 (some .int), .fieldLink RX1 26 "RowFiltersModel" "failed" "I", .methodLink RX1 29 yY1_out, .instanceMethod yY1_out, .selects RX1 yY1_out yY1_out, .initialized RX1, .methodLink RX1 33 yY1_fail, .instanceMethod yY1_fail, .selects RX1 yY1_fail yY1_fail, .fieldLink RX1 19 "RowFiltersModel" "bytes" "[I", .fieldLink RX1 13 "RowFiltersModel" "width" "I", .fieldLink RX1 7 "RowFiltersModel" "height" "I"] ++ wsY10)
def wsY1_fill : List Cond := .code yY1_fill cY1_fill 5 none :: ([.fieldLink RX1 26 "RowFiltersModel" "failed" "I", .fieldLink RX1 7 "RowFiltersModel" "height" "I", .fieldLink RX1 13 "RowFiltersModel" "width" "I", .fieldLink RX1 19 "RowFiltersModel" "bytes" "[I"] ++ wsY10)
def wsY1_bad : List Cond := .code yY1_bad cY1_bad 3 (some .boolean) :: ([.fieldLink RX1 7 "RowFiltersModel" "height" "I"] ++ wsY10)
def wsY1_at : List Cond := .code yY1_at cY1_at 3 (some .int) :: ([.fieldLink RX1 19 "RowFiltersModel" "bytes" "[I", .fieldLink RX1 13 "RowFiltersModel" "width" "I"] ++ wsY10)
def wsY1_guess : List Cond := .code yY1_guess cY1_guess 11 (some .int) :: ([.code Lib.Math.abs.name Lib.Math.abs.code 1 (some .int), .code yY1_at cY1_at 3 (some .int), .fieldLink RX1 16 "RowFiltersModel" "step" "I", .methodLink RX1 37 yY1_at, .instanceMethod yY1_at, .selects RX1 yY1_at yY1_at, .initialized RX1, .methodLink RX1 41 Lib.Math.abs.name, .static Lib.Math.abs.name, .initialized "java/lang/Math", .fieldLink RX1 19 "RowFiltersModel" "bytes" "[I", .fieldLink RX1 13 "RowFiltersModel" "width" "I"] ++ wsY10)
def wsY1_tell : List Cond := .code yY1_tell cY1_tell 6 (some .int) :: ([.code yY1_guess cY1_guess 11 (some .int), .code Lib.Math.abs.name Lib.Math.abs.code 1 (some .int), .code yY1_at cY1_at 3 (some .int), .fieldLink RX1 13 "RowFiltersModel" "width" "I", .fieldLink RX1 19 "RowFiltersModel" "bytes" "[I", .methodLink RX1 46 yY1_guess, .instanceMethod yY1_guess, .selects RX1 yY1_guess yY1_guess, .initialized RX1, .fieldLink RX1 23 "RowFiltersModel" "told" "[I", .fieldLink RX1 16 "RowFiltersModel" "step" "I", .methodLink RX1 37 yY1_at, .instanceMethod yY1_at, .selects RX1 yY1_at yY1_at, .methodLink RX1 41 Lib.Math.abs.name, .static Lib.Math.abs.name, .initialized "java/lang/Math"] ++ wsY10)
def wsY1_filter : List Cond := .code yY1_filter cY1_filter 5 none :: ([.code yY1_bad cY1_bad 3 (some .boolean), .code yY1_tell cY1_tell 6 (some .int), .code yY1_guess cY1_guess 11 (some .int), .code Lib.Math.abs.name Lib.Math.abs.code 1 (some .int), .code yY1_at cY1_at 3 (some .int), .fieldLink RX1 26 "RowFiltersModel" "failed" "I", .methodLink RX1 50 yY1_bad, .instanceMethod yY1_bad, .selects RX1 yY1_bad yY1_bad, .initialized RX1, .methodLink RX1 53 yY1_tell, .instanceMethod yY1_tell, .selects RX1 yY1_tell yY1_tell, .fieldLink RX1 13 "RowFiltersModel" "width" "I", .fieldLink RX1 19 "RowFiltersModel" "bytes" "[I", .fieldLink RX1 23 "RowFiltersModel" "told" "[I", .fieldLink RX1 7 "RowFiltersModel" "height" "I", .methodLink RX1 46 yY1_guess, .instanceMethod yY1_guess, .selects RX1 yY1_guess yY1_guess, .fieldLink RX1 16 "RowFiltersModel" "step" "I", .methodLink RX1 37 yY1_at, .instanceMethod yY1_at, .selects RX1 yY1_at yY1_at, .methodLink RX1 41 Lib.Math.abs.name, .static Lib.Math.abs.name, .initialized "java/lang/Math"] ++ wsY10)
def wsY1_untell : List Cond := .code yY1_untell cY1_untell 4 none :: ([.code yY1_guess cY1_guess 11 (some .int), .code Lib.Math.abs.name Lib.Math.abs.code 1 (some .int), .code yY1_at cY1_at 3 (some .int), .fieldLink RX1 13 "RowFiltersModel" "width" "I", .fieldLink RX1 19 "RowFiltersModel" "bytes" "[I", .methodLink RX1 46 yY1_guess, .instanceMethod yY1_guess, .selects RX1 yY1_guess yY1_guess, .initialized RX1, .fieldLink RX1 16 "RowFiltersModel" "step" "I", .methodLink RX1 37 yY1_at, .instanceMethod yY1_at, .selects RX1 yY1_at yY1_at, .methodLink RX1 41 Lib.Math.abs.name, .static Lib.Math.abs.name, .initialized "java/lang/Math"] ++ wsY10)
def wsY1_plain : List Cond := .code yY1_plain cY1_plain 3 none :: ([.code yY1_bad cY1_bad 3 (some .boolean), .code yY1_untell cY1_untell 4 none, .code yY1_guess cY1_guess 11 (some .int), .code Lib.Math.abs.name Lib.Math.abs.code 1 (some .int), .code yY1_at cY1_at 3 (some .int), .fieldLink RX1 26 "RowFiltersModel" "failed" "I", .methodLink RX1 50 yY1_bad, .instanceMethod yY1_bad, .selects RX1 yY1_bad yY1_bad, .initialized RX1, .methodLink RX1 56 yY1_untell, .instanceMethod yY1_untell, .selects RX1 yY1_untell yY1_untell, .fieldLink RX1 7 "RowFiltersModel" "height" "I", .fieldLink RX1 13 "RowFiltersModel" "width" "I", .fieldLink RX1 19 "RowFiltersModel" "bytes" "[I", .methodLink RX1 46 yY1_guess, .instanceMethod yY1_guess, .selects RX1 yY1_guess yY1_guess, .fieldLink RX1 16 "RowFiltersModel" "step" "I", .methodLink RX1 37 yY1_at, .instanceMethod yY1_at, .selects RX1 yY1_at yY1_at, .methodLink RX1 41 Lib.Math.abs.name, .static Lib.Math.abs.name, .initialized "java/lang/Math"] ++ wsY10)
def wsY1_best : List Cond := .code yY1_best cY1_best 7 (some .int) :: ([.code yY1_tell cY1_tell 6 (some .int), .code yY1_guess cY1_guess 11 (some .int), .code Lib.Math.abs.name Lib.Math.abs.code 1 (some .int), .code yY1_at cY1_at 3 (some .int), .fieldLink RX1 26 "RowFiltersModel" "failed" "I", .fieldLink RX1 7 "RowFiltersModel" "height" "I", .methodLink RX1 53 yY1_tell, .instanceMethod yY1_tell, .selects RX1 yY1_tell yY1_tell, .initialized RX1, .fieldLink RX1 13 "RowFiltersModel" "width" "I", .fieldLink RX1 19 "RowFiltersModel" "bytes" "[I", .fieldLink RX1 23 "RowFiltersModel" "told" "[I", .methodLink RX1 46 yY1_guess, .instanceMethod yY1_guess, .selects RX1 yY1_guess yY1_guess, .fieldLink RX1 16 "RowFiltersModel" "step" "I", .methodLink RX1 37 yY1_at, .instanceMethod yY1_at, .selects RX1 yY1_at yY1_at, .methodLink RX1 41 Lib.Math.abs.name, .static Lib.Math.abs.name, .initialized "java/lang/Math"] ++ wsY10)
def wsY1_undo : List Cond := .code yY1_undo cY1_undo 4 none :: ([.code yY1_untell cY1_untell 4 none, .code yY1_guess cY1_guess 11 (some .int), .code Lib.Math.abs.name Lib.Math.abs.code 1 (some .int), .code yY1_at cY1_at 3 (some .int), .fieldLink RX1 26 "RowFiltersModel" "failed" "I", .constant RX1 60 (390624), .fieldLink RX1 7 "RowFiltersModel" "height" "I", .methodLink RX1 56 yY1_untell, .instanceMethod yY1_untell, .selects RX1 yY1_untell yY1_untell, .initialized RX1, .fieldLink RX1 13 "RowFiltersModel" "width" "I", .fieldLink RX1 19 "RowFiltersModel" "bytes" "[I", .methodLink RX1 46 yY1_guess, .instanceMethod yY1_guess, .selects RX1 yY1_guess yY1_guess, .fieldLink RX1 16 "RowFiltersModel" "step" "I", .methodLink RX1 37 yY1_at, .instanceMethod yY1_at, .selects RX1 yY1_at yY1_at, .methodLink RX1 41 Lib.Math.abs.name, .static Lib.Math.abs.name, .initialized "java/lang/Math"] ++ wsY10)
def wsY1_hash : List Cond := .code yY1_hash cY1_hash 3 (some .int) :: ([.fieldLink RX1 26 "RowFiltersModel" "failed" "I", .fieldLink RX1 7 "RowFiltersModel" "height" "I", .fieldLink RX1 13 "RowFiltersModel" "width" "I", .fieldLink RX1 19 "RowFiltersModel" "bytes" "[I"] ++ wsY10)
def wsY1_column : List Cond := .code yY1_column cY1_column 3 (some .boolean) :: ([])
def wsY1_line : List Cond := .code yY1_line cY1_line 3 (some .boolean) :: ([])
def wsY1_pass : List Cond := .code yY1_pass cY1_pass 8 (some .int) :: ([.code yY1_fail cY1_fail 2 (some .int), .code yY1_column cY1_column 3 (some .boolean), .code yY1_line cY1_line 3 (some .boolean), .fieldLink RX1 26 "RowFiltersModel" "failed" "I", .constant RX1 61 (100000), .methodLink RX1 33 yY1_fail, .instanceMethod yY1_fail, .selects RX1 yY1_fail yY1_fail, .initialized RX1, .methodLink RX1 62 yY1_column, .instanceMethod yY1_column, .selects RX1 yY1_column yY1_column, .methodLink RX1 65 yY1_line, .instanceMethod yY1_line, .selects RX1 yY1_line yY1_line] ++ wsY10)
def wsY1_passOf : List Cond := .code yY1_passOf cY1_passOf 4 (some .int) :: ([.code yY1_fail cY1_fail 2 (some .int), .code yY1_column cY1_column 3 (some .boolean), .code yY1_line cY1_line 3 (some .boolean), .fieldLink RX1 26 "RowFiltersModel" "failed" "I", .constant RX1 68 (99999), .methodLink RX1 33 yY1_fail, .instanceMethod yY1_fail, .selects RX1 yY1_fail yY1_fail, .initialized RX1, .methodLink RX1 62 yY1_column, .instanceMethod yY1_column, .selects RX1 yY1_column yY1_column, .methodLink RX1 65 yY1_line, .instanceMethod yY1_line, .selects RX1 yY1_line yY1_line] ++ wsY10)
set_option maxRecDepth 20000 in
theorem gY1_set_Y1_out : GoodIn wsY1_set (wsV RX1 29 RX1 yY1_out wsY1_out) := goodIn_p _ [1] rfl (by decide +kernel)
set_option maxRecDepth 20000 in
theorem gY1_set_Y1_fail : GoodIn wsY1_set (wsV RX1 33 RX1 yY1_fail wsY1_fail) := goodIn_p _ [2] rfl (by decide +kernel)
set_option maxRecDepth 20000 in
theorem gY1_get_Y1_out : GoodIn wsY1_get (wsV RX1 29 RX1 yY1_out wsY1_out) := goodIn_p _ [1] rfl (by decide +kernel)
set_option maxRecDepth 20000 in
theorem gY1_get_Y1_fail : GoodIn wsY1_get (wsV RX1 33 RX1 yY1_fail wsY1_fail) := goodIn_p _ [2] rfl (by decide +kernel)
set_option maxRecDepth 20000 in
theorem gY1_guess_Y1_at : GoodIn wsY1_guess (wsV RX1 37 RX1 yY1_at wsY1_at) := goodIn_p _ [2] rfl (by decide +kernel)
set_option maxRecDepth 20000 in
theorem gY1_tell_Y1_guess : GoodIn wsY1_tell (wsV RX1 46 RX1 yY1_guess wsY1_guess) := goodIn_p _ [1, 2, 3] rfl (by decide +kernel)
set_option maxRecDepth 20000 in
theorem gY1_filter_Y1_bad : GoodIn wsY1_filter (wsV RX1 50 RX1 yY1_bad wsY1_bad) := goodIn_p _ [1] rfl (by decide +kernel)
set_option maxRecDepth 20000 in
theorem gY1_filter_Y1_tell : GoodIn wsY1_filter (wsV RX1 53 RX1 yY1_tell wsY1_tell) := goodIn_p _ [2, 3, 4, 5] rfl (by decide +kernel)
set_option maxRecDepth 20000 in
theorem gY1_untell_Y1_guess : GoodIn wsY1_untell (wsV RX1 46 RX1 yY1_guess wsY1_guess) := goodIn_p _ [1, 2, 3] rfl (by decide +kernel)
set_option maxRecDepth 20000 in
theorem gY1_plain_Y1_bad : GoodIn wsY1_plain (wsV RX1 50 RX1 yY1_bad wsY1_bad) := goodIn_p _ [1] rfl (by decide +kernel)
set_option maxRecDepth 20000 in
theorem gY1_plain_Y1_untell : GoodIn wsY1_plain (wsV RX1 56 RX1 yY1_untell wsY1_untell) := goodIn_p _ [2, 3, 4, 5] rfl (by decide +kernel)
set_option maxRecDepth 20000 in
theorem gY1_best_Y1_tell : GoodIn wsY1_best (wsV RX1 53 RX1 yY1_tell wsY1_tell) := goodIn_p _ [1, 2, 3, 4] rfl (by decide +kernel)
set_option maxRecDepth 20000 in
theorem gY1_undo_Y1_untell : GoodIn wsY1_undo (wsV RX1 56 RX1 yY1_untell wsY1_untell) := goodIn_p _ [1, 2, 3, 4] rfl (by decide +kernel)
set_option maxRecDepth 20000 in
theorem gY1_pass_Y1_fail : GoodIn wsY1_pass (wsV RX1 33 RX1 yY1_fail wsY1_fail) := goodIn_p _ [1] rfl (by decide +kernel)
set_option maxRecDepth 20000 in
theorem gY1_pass_Y1_column : GoodIn wsY1_pass (wsV RX1 62 RX1 yY1_column wsY1_column) := goodIn_p _ [2] rfl (by decide +kernel)
set_option maxRecDepth 20000 in
theorem gY1_pass_Y1_line : GoodIn wsY1_pass (wsV RX1 65 RX1 yY1_line wsY1_line) := goodIn_p _ [3] rfl (by decide +kernel)
set_option maxRecDepth 20000 in
theorem gY1_passOf_Y1_fail : GoodIn wsY1_passOf (wsV RX1 33 RX1 yY1_fail wsY1_fail) := goodIn_p _ [1] rfl (by decide +kernel)
set_option maxRecDepth 20000 in
theorem gY1_passOf_Y1_column : GoodIn wsY1_passOf (wsV RX1 62 RX1 yY1_column wsY1_column) := goodIn_p _ [2] rfl (by decide +kernel)
set_option maxRecDepth 20000 in
theorem gY1_passOf_Y1_line : GoodIn wsY1_passOf (wsV RX1 65 RX1 yY1_line wsY1_line) := goodIn_p _ [3] rfl (by decide +kernel)
