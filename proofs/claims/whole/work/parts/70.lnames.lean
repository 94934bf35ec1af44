def TX1 : u_T := fun k => match k with
  | _ => ("", "", "", false)
def tyX1 : Nat → FieldType := fun k => match k with
  | _ => .int
abbrev wsX10 : List Cond := u_ws RX1 TX1 0
theorem nmX1 : ∀ a, a < 0 → ∀ b, b < 0 → a ≠ b → (TX1 a).2.1 ≠ (TX1 b).2.1 := by decide +kernel
theorem tyX1_ok : ∀ k, k < 0 → parseFieldDescriptor (TX1 k).2.2.1 = some (tyX1 k) := by decide +kernel
abbrev cX1_init : ByteArray := prog_3_method_1_code
def yX1_init : MethodName := ⟨RX1, "<init>", "()V"⟩
def wsX1_init : List Cond := .code yX1_init cX1_init 1 none :: ([.methodLink RX1 1 objectInit, .instanceMethod objectInit, .code objectInit ⟨#[0xb1]⟩ 1 none, .fieldLink RX1 7 "RowFiltersModel" "height" "I", .fieldLink RX1 13 "RowFiltersModel" "width" "I", .fieldLink RX1 16 "RowFiltersModel" "step" "I", .arrayClass .int])
abbrev cL_law : ByteArray := code
def yL_law : MethodName := ⟨RL, "law", "([I)Z"⟩
def wsL_law0_r1 : List Cond := [Cond.classLink RL 8 RX0, Cond.instantiable RX0 4, Cond.initialized RX0, Cond.classLink RL 42 RX1, Cond.instantiable RX1 6, Cond.initialized RX1, Cond.methodLink RL 41 yX0_init, Cond.instanceMethod yX0_init, Cond.code yX0_init cX0_init 1 none, Cond.methodLink RX0 1 objectInit, Cond.instanceMethod objectInit, Cond.code objectInit ⟨#[0xb1]⟩ 1 none, Cond.arrayClass .int, Cond.fieldLink RX0 9 "RowFilters" "bytes" "[I", Cond.fieldLink RX0 13 "RowFilters" "rowCount" "I", Cond.fieldLink RX0 17 "RowFilters" "rowLength" "I", Cond.fieldLink RX0 20 "RowFilters" "pointSize" "I", Cond.methodLink RL 44 yX1_init, Cond.instanceMethod yX1_init, Cond.code yX1_init cX1_init 1 none, Cond.methodLink RX1 1 objectInit, Cond.fieldLink RX1 7 "RowFiltersModel" "height" "I", Cond.fieldLink RX1 13 "RowFiltersModel" "width" "I", Cond.fieldLink RX1 16 "RowFiltersModel" "step" "I"]
def wsL_law0_r2 : List Cond := [Cond.methodLink RL 45 yL_open, Cond.static yL_open, Cond.initialized RL, Cond.codeWith yL_open cL_open 5 (some .int) [(0, 7, 10, 13)], Cond.classLink RL 13 "java/lang/IllegalArgumentException", Cond.methodLink RL 7 yX0_open, Cond.instanceMethod yX0_open, Cond.selects RX0 yX0_open yX0_open, Cond.code yX0_open cX0_open 4 none, Cond.methodLink RX0 23 yX0_requireWithin, Cond.static yX0_requireWithin, Cond.code yX0_requireWithin cX0_requireWithin 3 none, Cond.classLink RX0 94 "java/lang/IllegalArgumentException", Cond.initialized "java/lang/IllegalArgumentException", Cond.methodLink RX0 27 yJ7_fill_53178, Cond.static yJ7_fill_53178, Cond.initialized RJ7, Cond.code yJ7_fill_53178 cJ7_fill_53178 4 none, Cond.methodLink RL 55 yL_set, Cond.static yL_set, Cond.codeWith yL_set cL_set 6 (some .int) [(0, 12, 15, 13)], Cond.methodLink RL 15 yX0_set, Cond.instanceMethod yX0_set, Cond.selects RX0 yX0_set yX0_set]
def wsL_law0_r3 : List Cond := [Cond.code yX0_set cX0_set 6 (some .int), Cond.methodLink RX0 33 yX0_requireByte, Cond.instanceMethod yX0_requireByte, Cond.selects RX0 yX0_requireByte yX0_requireByte, Cond.code yX0_requireByte cX0_requireByte 3 none, Cond.methodLink RX0 37 yX0_requireRow, Cond.instanceMethod yX0_requireRow, Cond.selects RX0 yX0_requireRow yX0_requireRow, Cond.code yX0_requireRow cX0_requireRow 2 none, Cond.methodLink RL 59 yL_get, Cond.static yL_get, Cond.codeWith yL_get cL_get 5 (some .int) [(0, 10, 13, 13)], Cond.methodLink RL 19 yX0_get, Cond.instanceMethod yX0_get, Cond.selects RX0 yX0_get yX0_get, Cond.code yX0_get cX0_get 3 (some .int), Cond.methodLink RL 63 yX0_fill, Cond.instanceMethod yX0_fill, Cond.selects RX0 yX0_fill yX0_fill, Cond.code yX0_fill cX0_fill 6 none, Cond.methodLink RL 67 yL_filter, Cond.static yL_filter, Cond.codeWith yL_filter cL_filter 4 (some .int) [(0, 6, 9, 13)], Cond.methodLink RL 23 yX0_filter]
def wsL_law0_r4 : List Cond := [Cond.instanceMethod yX0_filter, Cond.selects RX0 yX0_filter yX0_filter, Cond.code yX0_filter cX0_filter 3 none, Cond.methodLink RX0 41 yX0_requireFilter, Cond.static yX0_requireFilter, Cond.code yX0_requireFilter cX0_requireFilter 1 none, Cond.methodLink RX0 44 yX0_tellRow, Cond.instanceMethod yX0_tellRow, Cond.selects RX0 yX0_tellRow yX0_tellRow, Cond.code yX0_tellRow cX0_tellRow 5 none, Cond.methodLink RX0 79 yX0_foretold, Cond.instanceMethod yX0_foretold, Cond.selects RX0 yX0_foretold yX0_foretold, Cond.code yX0_foretold cX0_foretold 6 (some .int), Cond.methodLink RX0 85 yX0_byteOrZero, Cond.instanceMethod yX0_byteOrZero, Cond.selects RX0 yX0_byteOrZero yX0_byteOrZero, Cond.code yX0_byteOrZero cX0_byteOrZero 3 (some .int), Cond.methodLink RX0 91 yX0_nearest, Cond.static yX0_nearest, Cond.code yX0_nearest cX0_nearest 7 (some .int), Cond.methodLink RX0 88 Lib.Math.abs.name, Cond.static Lib.Math.abs.name, Cond.initialized "java/lang/Math"]
def wsL_law0_r5 : List Cond := [Cond.code Lib.Math.abs.name Lib.Math.abs.code 1 (some .int), Cond.methodLink RL 71 yL_plain, Cond.static yL_plain, Cond.codeWith yL_plain cL_plain 4 (some .int) [(0, 6, 9, 13)], Cond.methodLink RL 27 yX0_plain, Cond.instanceMethod yX0_plain, Cond.selects RX0 yX0_plain yX0_plain, Cond.code yX0_plain cX0_plain 3 none, Cond.methodLink RX0 47 yX0_restoreRow, Cond.instanceMethod yX0_restoreRow, Cond.selects RX0 yX0_restoreRow yX0_restoreRow, Cond.code yX0_restoreRow cX0_restoreRow 5 none, Cond.methodLink RL 74 yX0_best, Cond.instanceMethod yX0_best, Cond.selects RX0 yX0_best yX0_best, Cond.code yX0_best cX0_best 5 (some .int), Cond.methodLink RX0 50 yX0_leastFilter, Cond.instanceMethod yX0_leastFilter, Cond.selects RX0 yX0_leastFilter yX0_leastFilter, Cond.code yX0_leastFilter cX0_leastFilter 6 (some .int), Cond.methodLink RX0 82 yX0_sumTold, Cond.instanceMethod yX0_sumTold, Cond.selects RX0 yX0_sumTold yX0_sumTold, Cond.code yX0_sumTold cX0_sumTold 6 (some .int)]
def wsL_law0_r6 : List Cond := [Cond.methodLink RL 78 yL_undo, Cond.static yL_undo, Cond.codeWith yL_undo cL_undo 3 (some .int) [(0, 5, 8, 13)], Cond.methodLink RL 30 yX0_undo, Cond.instanceMethod yX0_undo, Cond.selects RX0 yX0_undo yX0_undo, Cond.code yX0_undo cX0_undo 5 none, Cond.constant RX0 54 (390624), Cond.methodLink RX0 55 Lib.Math.min.name, Cond.static Lib.Math.min.name, Cond.code Lib.Math.min.name Lib.Math.min.code 2 (some .int), Cond.methodLink RL 82 yX0_hash, Cond.instanceMethod yX0_hash, Cond.selects RX0 yX0_hash yX0_hash, Cond.code yX0_hash cX0_hash 4 (some .int), Cond.methodLink RL 86 yL_pass, Cond.static yL_pass, Cond.codeWith yL_pass cL_pass 7 (some .int) [(0, 14, 17, 13)], Cond.methodLink RL 34 yX0_pass, Cond.instanceMethod yX0_pass, Cond.selects RX0 yX0_pass yX0_pass, Cond.code yX0_pass cX0_pass 7 (some .int), Cond.constant RX0 61 (100000), Cond.fieldLink RX0 62 "RowFilters" "PASS_FROM_X" "[I"]
def wsL_law0_r7 : List Cond := [Cond.fieldLink RX0 65 "RowFilters" "PASS_STEP_X" "[I", Cond.fieldLink RX0 72 "RowFilters" "PASS_FROM_Y" "[I", Cond.fieldLink RX0 75 "RowFilters" "PASS_STEP_Y" "[I", Cond.methodLink RX0 68 yX0_pointsAlong, Cond.static yX0_pointsAlong, Cond.code yX0_pointsAlong cX0_pointsAlong 3 (some .int), Cond.methodLink RL 90 yL_passOf, Cond.static yL_passOf, Cond.codeWith yL_passOf cL_passOf 5 (some .int) [(0, 10, 13, 13)], Cond.methodLink RL 38 yX0_passOf, Cond.instanceMethod yX0_passOf, Cond.selects RX0 yX0_passOf yX0_passOf, Cond.code yX0_passOf cX0_passOf 4 (some .int), Cond.constant RX0 78 (99999)]
def wsL_law0 : List Cond := (wsL_law0_r1 ++ (wsL_law0_r2 ++ (wsL_law0_r3 ++ (wsL_law0_r4 ++ (wsL_law0_r5 ++ (wsL_law0_r6 ++ wsL_law0_r7)))))) ++ wsX00 ++ wsX10 ++ ([] : List Cond)
def wsL_law : List Cond := wsL_law0 ++ (vx_atS RX0 98 "java/lang/IllegalArgumentException" ["java/lang/RuntimeException", "java/lang/Exception"]).filter goodWord
set_option maxRecDepth 20000 in
theorem wsL_law_in0 : ∀ w ∈ wsL_law0, w ∈ lw_tbl := fun w h => (goodIn_p wsL_law0 [31, 34, 252, 94, 97, 166, 173, 177, 181, 188, 52, 195, 198, 82, 72, 68, 75, 78, 205, 209, 56, 60, 64, 216, 220, 86, 227, 235, 246] (by decide +kernel) (by decide +kernel) w h).1
theorem wsL_law_x0 : ∀ w ∈ (vx_atS RX0 98 "java/lang/IllegalArgumentException" ["java/lang/RuntimeException", "java/lang/Exception"]).filter goodWord, w ∈ lw_tbl := by decide +kernel
theorem wsL_law_in : ∀ w ∈ wsL_law, w ∈ lw_tbl := fun w h => (List.mem_append.mp h).elim (fun h => wsL_law_in0 w h) (fun h => wsL_law_x0 w h)
set_option maxRecDepth 20000 in
theorem ggL_law_X0_init : GoodIn wsL_law wsX0_init := goodIn_r _ [8, 9, 10, 11, 12, 13, 14, 15, 16, 158, 159, 160, 161] (by decide +kernel) (by decide +kernel)
set_option maxRecDepth 20000 in
theorem gL_law_X0_init : GoodIn wsL_law (wsX0_init) := ggL_law_X0_init
set_option maxRecDepth 20000 in
theorem ggL_law_X1_init : GoodIn wsL_law wsX1_init := goodIn_r _ [19, 20, 10, 11, 21, 22, 23, 12] (by decide +kernel) (by decide +kernel)
set_option maxRecDepth 20000 in
theorem gL_law_X1_init : GoodIn wsL_law (wsX1_init) := ggL_law_X1_init
set_option maxRecDepth 20000 in
theorem ggL_law_L_open : GoodIn wsL_law wsL_open := goodIn_ca (goodIn_r _ [27, 28, 29, 30, 31, 2, 32, 14, 15, 16, 13, 33, 34, 35, 36, 37, 38, 39, 40, 41, 158, 159, 160, 161] (by decide +kernel) (by decide +kernel)) (goodIn_sub (fun _ h => List.mem_append_right _ h) (by decide +kernel))
set_option maxRecDepth 20000 in
theorem gL_law_L_open : GoodIn wsL_law (va_wsS RL 45 yL_open wsL_open) := goodIn_app (goodIn_of _ (by decide +kernel)) ggL_law_L_open
set_option maxRecDepth 20000 in
theorem ggL_law_L_set : GoodIn wsL_law wsL_set := goodIn_ca (goodIn_r _ [44, 28, 45, 46, 47, 2, 48, 15, 13, 49, 50, 51, 52, 53, 54, 55, 56, 14, 33, 34, 35, 36, 37, 158, 159, 160, 161] (by decide +kernel) (by decide +kernel)) (goodIn_sub (fun _ h => List.mem_append_right _ h) (by decide +kernel))
set_option maxRecDepth 20000 in
theorem gL_law_L_set : GoodIn wsL_law (va_wsS RL 55 yL_set wsL_set) := goodIn_app (goodIn_of _ (by decide +kernel)) ggL_law_L_set
set_option maxRecDepth 20000 in
theorem ggL_law_L_get : GoodIn wsL_law wsL_get := goodIn_ca (goodIn_r _ [59, 28, 60, 61, 62, 2, 63, 13, 15, 49, 50, 51, 52, 53, 54, 55, 56, 14, 33, 34, 35, 36, 37, 158, 159, 160, 161] (by decide +kernel) (by decide +kernel)) (goodIn_sub (fun _ h => List.mem_append_right _ h) (by decide +kernel))
set_option maxRecDepth 20000 in
theorem gL_law_L_get : GoodIn wsL_law (va_wsS RL 59 yL_get wsL_get) := goodIn_app (goodIn_of _ (by decide +kernel)) ggL_law_L_get
set_option maxRecDepth 20000 in
theorem ggL_law_X0_fill : GoodIn wsL_law wsX0_fill := goodIn_r _ [67, 14, 15, 13, 158, 159, 160, 161] (by decide +kernel) (by decide +kernel)
set_option maxRecDepth 20000 in
theorem gL_law_X0_fill : GoodIn wsL_law (wsV RL 63 RX0 yX0_fill wsX0_fill) := goodIn_app (goodIn_of _ (by decide +kernel)) ggL_law_X0_fill
set_option maxRecDepth 20000 in
theorem ggL_law_L_filter : GoodIn wsL_law wsL_filter := goodIn_ca (goodIn_r _ [70, 28, 71, 72, 73, 2, 74, 53, 54, 55, 56, 14, 33, 34, 35, 36, 37, 75, 76, 77, 78, 79, 80, 81, 15, 13, 82, 83, 84, 85, 16, 86, 87, 88, 89, 90, 91, 92, 93, 94, 95, 96, 158, 159, 160, 161] (by decide +kernel) (by decide +kernel)) (goodIn_sub (fun _ h => List.mem_append_right _ h) (by decide +kernel))
set_option maxRecDepth 20000 in
theorem gL_law_L_filter : GoodIn wsL_law (va_wsS RL 67 yL_filter wsL_filter) := goodIn_app (goodIn_of _ (by decide +kernel)) ggL_law_L_filter
set_option maxRecDepth 20000 in
theorem ggL_law_L_plain : GoodIn wsL_law wsL_plain := goodIn_ca (goodIn_r _ [99, 28, 100, 101, 102, 2, 103, 53, 54, 55, 56, 14, 33, 34, 35, 36, 37, 75, 76, 77, 104, 105, 106, 107, 15, 13, 82, 83, 84, 85, 16, 86, 87, 88, 89, 90, 91, 92, 93, 94, 95, 96, 158, 159, 160, 161] (by decide +kernel) (by decide +kernel)) (goodIn_sub (fun _ h => List.mem_append_right _ h) (by decide +kernel))
set_option maxRecDepth 20000 in
theorem gL_law_L_plain : GoodIn wsL_law (va_wsS RL 71 yL_plain wsL_plain) := goodIn_app (goodIn_of _ (by decide +kernel)) ggL_law_L_plain
set_option maxRecDepth 20000 in
theorem ggL_law_X0_best : GoodIn wsL_law wsX0_best := goodIn_r _ [111, 14, 112, 113, 114, 2, 115, 116, 117, 118, 119, 15, 93, 94, 95, 96, 86, 87, 88, 89, 13, 82, 83, 84, 85, 16, 90, 91, 92, 78, 79, 80, 81, 158, 159, 160, 161] (by decide +kernel) (by decide +kernel)
set_option maxRecDepth 20000 in
theorem gL_law_X0_best : GoodIn wsL_law (wsV RL 74 RX0 yX0_best wsX0_best) := goodIn_app (goodIn_of _ (by decide +kernel)) ggL_law_X0_best
set_option maxRecDepth 20000 in
theorem ggL_law_L_undo : GoodIn wsL_law wsL_undo := goodIn_ca (goodIn_r _ [122, 28, 123, 124, 125, 2, 126, 127, 14, 128, 129, 95, 130, 33, 34, 35, 36, 37, 104, 105, 106, 107, 15, 13, 82, 83, 84, 85, 16, 86, 87, 88, 89, 90, 91, 92, 93, 94, 96, 158, 159, 160, 161] (by decide +kernel) (by decide +kernel)) (goodIn_sub (fun _ h => List.mem_append_right _ h) (by decide +kernel))
set_option maxRecDepth 20000 in
theorem gL_law_L_undo : GoodIn wsL_law (va_wsS RL 78 yL_undo wsL_undo) := goodIn_app (goodIn_of _ (by decide +kernel)) ggL_law_L_undo
set_option maxRecDepth 20000 in
theorem ggL_law_X0_hash : GoodIn wsL_law wsX0_hash := goodIn_r _ [134, 14, 15, 13, 158, 159, 160, 161] (by decide +kernel) (by decide +kernel)
set_option maxRecDepth 20000 in
theorem gL_law_X0_hash : GoodIn wsL_law (wsV RL 82 RX0 yX0_hash wsX0_hash) := goodIn_app (goodIn_of _ (by decide +kernel)) ggL_law_X0_hash
set_option maxRecDepth 20000 in
theorem ggL_law_L_pass : GoodIn wsL_law wsL_pass := goodIn_ca (goodIn_r _ [137, 28, 138, 139, 140, 2, 141, 142, 143, 144, 145, 146, 33, 34, 35, 36, 37, 147, 148, 149] (by decide +kernel) (by decide +kernel)) (goodIn_sub (fun _ h => List.mem_append_right _ h) (by decide +kernel))
set_option maxRecDepth 20000 in
theorem gL_law_L_pass : GoodIn wsL_law (va_wsS RL 86 yL_pass wsL_pass) := goodIn_app (goodIn_of _ (by decide +kernel)) ggL_law_L_pass
set_option maxRecDepth 20000 in
theorem ggL_law_L_passOf : GoodIn wsL_law wsL_passOf := goodIn_ca (goodIn_r _ [152, 28, 153, 154, 155, 2, 156, 157, 144, 143, 146, 145, 33, 34, 35, 36, 37] (by decide +kernel) (by decide +kernel)) (goodIn_sub (fun _ h => List.mem_append_right _ h) (by decide +kernel))
set_option maxRecDepth 20000 in
theorem gL_law_L_passOf : GoodIn wsL_law (va_wsS RL 90 yL_passOf wsL_passOf) := goodIn_app (goodIn_of _ (by decide +kernel)) ggL_law_L_passOf
