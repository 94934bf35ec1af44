def RL : String := "RowFiltersLaw"
abbrev cL_open : ByteArray := method_3_code
def yL_open : MethodName := ⟨RL, "open", "(LRowFilters;III)I"⟩
abbrev cL_set : ByteArray := method_4_code
def yL_set : MethodName := ⟨RL, "set", "(LRowFilters;III[J)I"⟩
abbrev cL_get : ByteArray := method_5_code
def yL_get : MethodName := ⟨RL, "get", "(LRowFilters;II[J)I"⟩
abbrev cL_filter : ByteArray := method_6_code
def yL_filter : MethodName := ⟨RL, "filter", "(LRowFilters;II)I"⟩
abbrev cL_plain : ByteArray := method_7_code
def yL_plain : MethodName := ⟨RL, "plain", "(LRowFilters;II)I"⟩
abbrev cL_undo : ByteArray := method_8_code
def yL_undo : MethodName := ⟨RL, "undo", "(LRowFilters;I)I"⟩
abbrev cL_pass : ByteArray := method_9_code
def yL_pass : MethodName := ⟨RL, "pass", "(LRowFilters;IIIZ[J)I"⟩
abbrev cL_passOf : ByteArray := method_10_code
def yL_passOf : MethodName := ⟨RL, "passOf", "(LRowFilters;II[J)I"⟩
def wsL_open : List Cond := .codeWith yL_open cL_open 5 (some .int) [(0, 7, 10, 13)] :: ([.classLink RL 13 "java/lang/IllegalArgumentException", .methodLink RL 7 yX0_open, .instanceMethod yX0_open, .selects RX0 yX0_open yX0_open, .initialized RX0, .code yX0_open cX0_open 4 none, .fieldLink RX0 13 "RowFilters" "rowCount" "I", .fieldLink RX0 17 "RowFilters" "rowLength" "I", .fieldLink RX0 20 "RowFilters" "pointSize" "I", .fieldLink RX0 9 "RowFilters" "bytes" "[I", .methodLink RX0 23 yX0_requireWithin, .static yX0_requireWithin, .code yX0_requireWithin cX0_requireWithin 3 none, .classLink RX0 94 "java/lang/IllegalArgumentException", .initialized "java/lang/IllegalArgumentException", .methodLink RX0 27 yJ7_fill_53178, .static yJ7_fill_53178, .initialized RJ7, .code yJ7_fill_53178 cJ7_fill_53178 4 none] ++ wsX00 ++ (vx_atS RX0 98 "java/lang/IllegalArgumentException" ["java/lang/RuntimeException", "java/lang/Exception"]).filter goodWord)
def wsL_set : List Cond := .codeWith yL_set cL_set 6 (some .int) [(0, 12, 15, 13)] :: ([.classLink RL 13 "java/lang/IllegalArgumentException", .methodLink RL 15 yX0_set, .instanceMethod yX0_set, .selects RX0 yX0_set yX0_set, .initialized RX0, .code yX0_set cX0_set 6 (some .int), .fieldLink RX0 17 "RowFilters" "rowLength" "I", .fieldLink RX0 9 "RowFilters" "bytes" "[I", .methodLink RX0 33 yX0_requireByte, .instanceMethod yX0_requireByte, .selects RX0 yX0_requireByte yX0_requireByte, .code yX0_requireByte cX0_requireByte 3 none, .methodLink RX0 37 yX0_requireRow, .instanceMethod yX0_requireRow, .selects RX0 yX0_requireRow yX0_requireRow, .code yX0_requireRow cX0_requireRow 2 none, .fieldLink RX0 13 "RowFilters" "rowCount" "I", .methodLink RX0 23 yX0_requireWithin, .static yX0_requireWithin, .code yX0_requireWithin cX0_requireWithin 3 none, .classLink RX0 94 "java/lang/IllegalArgumentException", .initialized "java/lang/IllegalArgumentException"] ++ wsX00 ++ (vx_atS RX0 98 "java/lang/IllegalArgumentException" ["java/lang/RuntimeException", "java/lang/Exception"]).filter goodWord)
def wsL_get : List Cond := .codeWith yL_get cL_get 5 (some .int) [(0, 10, 13, 13)] :: ([.classLink RL 13 "java/lang/IllegalArgumentException", .methodLink RL 19 yX0_get, .instanceMethod yX0_get, .selects RX0 yX0_get yX0_get, .initialized RX0, .code yX0_get cX0_get 3 (some .int), .fieldLink RX0 9 "RowFilters" "bytes" "[I", .fieldLink RX0 17 "RowFilters" "rowLength" "I", .methodLink RX0 33 yX0_requireByte, .instanceMethod yX0_requireByte, .selects RX0 yX0_requireByte yX0_requireByte, .code yX0_requireByte cX0_requireByte 3 none, .methodLink RX0 37 yX0_requireRow, .instanceMethod yX0_requireRow, .selects RX0 yX0_requireRow yX0_requireRow, .code yX0_requireRow cX0_requireRow 2 none, .fieldLink RX0 13 "RowFilters" "rowCount" "I", .methodLink RX0 23 yX0_requireWithin, .static yX0_requireWithin, .code yX0_requireWithin cX0_requireWithin 3 none, .classLink RX0 94 "java/lang/IllegalArgumentException", .initialized "java/lang/IllegalArgumentException"] ++ wsX00 ++ (vx_atS RX0 98 "java/lang/IllegalArgumentException" ["java/lang/RuntimeException", "java/lang/Exception"]).filter goodWord)
def wsL_filter_r1 : List Cond := [Cond.classLink RL 13 "java/lang/IllegalArgumentException", Cond.methodLink RL 23 yX0_filter, Cond.instanceMethod yX0_filter, Cond.selects RX0 yX0_filter yX0_filter, Cond.initialized RX0, Cond.code yX0_filter cX0_filter 3 none, Cond.methodLink RX0 37 yX0_requireRow, Cond.instanceMethod yX0_requireRow, Cond.selects RX0 yX0_requireRow yX0_requireRow, Cond.code yX0_requireRow cX0_requireRow 2 none, Cond.fieldLink RX0 13 "RowFilters" "rowCount" "I", Cond.methodLink RX0 23 yX0_requireWithin, Cond.static yX0_requireWithin, Cond.code yX0_requireWithin cX0_requireWithin 3 none, Cond.classLink RX0 94 "java/lang/IllegalArgumentException", Cond.initialized "java/lang/IllegalArgumentException", Cond.methodLink RX0 41 yX0_requireFilter, Cond.static yX0_requireFilter, Cond.code yX0_requireFilter cX0_requireFilter 1 none, Cond.methodLink RX0 44 yX0_tellRow, Cond.instanceMethod yX0_tellRow, Cond.selects RX0 yX0_tellRow yX0_tellRow, Cond.code yX0_tellRow cX0_tellRow 5 none, Cond.fieldLink RX0 17 "RowFilters" "rowLength" "I"]
def wsL_filter_r2 : List Cond := [Cond.fieldLink RX0 9 "RowFilters" "bytes" "[I", Cond.methodLink RX0 79 yX0_foretold, Cond.instanceMethod yX0_foretold, Cond.selects RX0 yX0_foretold yX0_foretold, Cond.code yX0_foretold cX0_foretold 6 (some .int), Cond.fieldLink RX0 20 "RowFilters" "pointSize" "I", Cond.methodLink RX0 85 yX0_byteOrZero, Cond.instanceMethod yX0_byteOrZero, Cond.selects RX0 yX0_byteOrZero yX0_byteOrZero, Cond.code yX0_byteOrZero cX0_byteOrZero 3 (some .int), Cond.methodLink RX0 91 yX0_nearest, Cond.static yX0_nearest, Cond.code yX0_nearest cX0_nearest 7 (some .int), Cond.methodLink RX0 88 Lib.Math.abs.name, Cond.static Lib.Math.abs.name, Cond.initialized "java/lang/Math", Cond.code Lib.Math.abs.name Lib.Math.abs.code 1 (some .int)]
def wsL_filter : List Cond := .codeWith yL_filter cL_filter 4 (some .int) [(0, 6, 9, 13)] :: ((wsL_filter_r1 ++ wsL_filter_r2) ++ wsX00 ++ (vx_atS RX0 98 "java/lang/IllegalArgumentException" ["java/lang/RuntimeException", "java/lang/Exception"]).filter goodWord)
def wsL_plain_r1 : List Cond := [Cond.classLink RL 13 "java/lang/IllegalArgumentException", Cond.methodLink RL 27 yX0_plain, Cond.instanceMethod yX0_plain, Cond.selects RX0 yX0_plain yX0_plain, Cond.initialized RX0, Cond.code yX0_plain cX0_plain 3 none, Cond.methodLink RX0 37 yX0_requireRow, Cond.instanceMethod yX0_requireRow, Cond.selects RX0 yX0_requireRow yX0_requireRow, Cond.code yX0_requireRow cX0_requireRow 2 none, Cond.fieldLink RX0 13 "RowFilters" "rowCount" "I", Cond.methodLink RX0 23 yX0_requireWithin, Cond.static yX0_requireWithin, Cond.code yX0_requireWithin cX0_requireWithin 3 none, Cond.classLink RX0 94 "java/lang/IllegalArgumentException", Cond.initialized "java/lang/IllegalArgumentException", Cond.methodLink RX0 41 yX0_requireFilter, Cond.static yX0_requireFilter, Cond.code yX0_requireFilter cX0_requireFilter 1 none, Cond.methodLink RX0 47 yX0_restoreRow, Cond.instanceMethod yX0_restoreRow, Cond.selects RX0 yX0_restoreRow yX0_restoreRow, Cond.code yX0_restoreRow cX0_restoreRow 5 none, Cond.fieldLink RX0 17 "RowFilters" "rowLength" "I"]
def wsL_plain_r2 : List Cond := [Cond.fieldLink RX0 9 "RowFilters" "bytes" "[I", Cond.methodLink RX0 79 yX0_foretold, Cond.instanceMethod yX0_foretold, Cond.selects RX0 yX0_foretold yX0_foretold, Cond.code yX0_foretold cX0_foretold 6 (some .int), Cond.fieldLink RX0 20 "RowFilters" "pointSize" "I", Cond.methodLink RX0 85 yX0_byteOrZero, Cond.instanceMethod yX0_byteOrZero, Cond.selects RX0 yX0_byteOrZero yX0_byteOrZero, Cond.code yX0_byteOrZero cX0_byteOrZero 3 (some .int), Cond.methodLink RX0 91 yX0_nearest, Cond.static yX0_nearest, Cond.code yX0_nearest cX0_nearest 7 (some .int), Cond.methodLink RX0 88 Lib.Math.abs.name, Cond.static Lib.Math.abs.name, Cond.initialized "java/lang/Math", Cond.code Lib.Math.abs.name Lib.Math.abs.code 1 (some .int)]
def wsL_plain : List Cond := .codeWith yL_plain cL_plain 4 (some .int) [(0, 6, 9, 13)] :: ((wsL_plain_r1 ++ wsL_plain_r2) ++ wsX00 ++ (vx_atS RX0 98 "java/lang/IllegalArgumentException" ["java/lang/RuntimeException", "java/lang/Exception"]).filter goodWord)
def wsL_undo_r1 : List Cond := [Cond.classLink RL 13 "java/lang/IllegalArgumentException", Cond.methodLink RL 30 yX0_undo, Cond.instanceMethod yX0_undo, Cond.selects RX0 yX0_undo yX0_undo, Cond.initialized RX0, Cond.code yX0_undo cX0_undo 5 none, Cond.constant RX0 54 (390624), Cond.fieldLink RX0 13 "RowFilters" "rowCount" "I", Cond.methodLink RX0 55 Lib.Math.min.name, Cond.static Lib.Math.min.name, Cond.initialized "java/lang/Math", Cond.code Lib.Math.min.name Lib.Math.min.code 2 (some .int), Cond.methodLink RX0 23 yX0_requireWithin, Cond.static yX0_requireWithin, Cond.code yX0_requireWithin cX0_requireWithin 3 none, Cond.classLink RX0 94 "java/lang/IllegalArgumentException", Cond.initialized "java/lang/IllegalArgumentException", Cond.methodLink RX0 47 yX0_restoreRow, Cond.instanceMethod yX0_restoreRow, Cond.selects RX0 yX0_restoreRow yX0_restoreRow, Cond.code yX0_restoreRow cX0_restoreRow 5 none, Cond.fieldLink RX0 17 "RowFilters" "rowLength" "I", Cond.fieldLink RX0 9 "RowFilters" "bytes" "[I", Cond.methodLink RX0 79 yX0_foretold]
def wsL_undo_r2 : List Cond := [Cond.instanceMethod yX0_foretold, Cond.selects RX0 yX0_foretold yX0_foretold, Cond.code yX0_foretold cX0_foretold 6 (some .int), Cond.fieldLink RX0 20 "RowFilters" "pointSize" "I", Cond.methodLink RX0 85 yX0_byteOrZero, Cond.instanceMethod yX0_byteOrZero, Cond.selects RX0 yX0_byteOrZero yX0_byteOrZero, Cond.code yX0_byteOrZero cX0_byteOrZero 3 (some .int), Cond.methodLink RX0 91 yX0_nearest, Cond.static yX0_nearest, Cond.code yX0_nearest cX0_nearest 7 (some .int), Cond.methodLink RX0 88 Lib.Math.abs.name, Cond.static Lib.Math.abs.name, Cond.code Lib.Math.abs.name Lib.Math.abs.code 1 (some .int)]
def wsL_undo : List Cond := .codeWith yL_undo cL_undo 3 (some .int) [(0, 5, 8, 13)] :: ((wsL_undo_r1 ++ wsL_undo_r2) ++ wsX00 ++ (vx_atS RX0 98 "java/lang/IllegalArgumentException" ["java/lang/RuntimeException", "java/lang/Exception"]).filter goodWord)
def wsL_pass : List Cond := .codeWith yL_pass cL_pass 7 (some .int) [(0, 14, 17, 13)] :: ([.classLink RL 13 "java/lang/IllegalArgumentException", .methodLink RL 34 yX0_pass, .instanceMethod yX0_pass, .selects RX0 yX0_pass yX0_pass, .initialized RX0, .code yX0_pass cX0_pass 7 (some .int), .constant RX0 61 (100000), .fieldLink RX0 62 "RowFilters" "PASS_FROM_X" "[I", .fieldLink RX0 65 "RowFilters" "PASS_STEP_X" "[I", .fieldLink RX0 72 "RowFilters" "PASS_FROM_Y" "[I", .fieldLink RX0 75 "RowFilters" "PASS_STEP_Y" "[I", .methodLink RX0 23 yX0_requireWithin, .static yX0_requireWithin, .code yX0_requireWithin cX0_requireWithin 3 none, .classLink RX0 94 "java/lang/IllegalArgumentException", .initialized "java/lang/IllegalArgumentException", .methodLink RX0 68 yX0_pointsAlong, .static yX0_pointsAlong, .code yX0_pointsAlong cX0_pointsAlong 3 (some .int)] ++ (vx_atS RX0 98 "java/lang/IllegalArgumentException" ["java/lang/RuntimeException", "java/lang/Exception"]).filter goodWord)
def wsL_passOf : List Cond := .codeWith yL_passOf cL_passOf 5 (some .int) [(0, 10, 13, 13)] :: ([.classLink RL 13 "java/lang/IllegalArgumentException", .methodLink RL 38 yX0_passOf, .instanceMethod yX0_passOf, .selects RX0 yX0_passOf yX0_passOf, .initialized RX0, .code yX0_passOf cX0_passOf 4 (some .int), .constant RX0 78 (99999), .fieldLink RX0 65 "RowFilters" "PASS_STEP_X" "[I", .fieldLink RX0 62 "RowFilters" "PASS_FROM_X" "[I", .fieldLink RX0 75 "RowFilters" "PASS_STEP_Y" "[I", .fieldLink RX0 72 "RowFilters" "PASS_FROM_Y" "[I", .methodLink RX0 23 yX0_requireWithin, .static yX0_requireWithin, .code yX0_requireWithin cX0_requireWithin 3 none, .classLink RX0 94 "java/lang/IllegalArgumentException", .initialized "java/lang/IllegalArgumentException"] ++ (vx_atS RX0 98 "java/lang/IllegalArgumentException" ["java/lang/RuntimeException", "java/lang/Exception"]).filter goodWord)
set_option maxRecDepth 20000 in
theorem ggL_open_X0_open : GoodIn wsL_open wsX0_open := goodIn_ca (goodIn_r _ [6, 7, 8, 9, 10, 11, 12, 5, 13, 14, 15, 16, 17, 18, 19, 20, 21, 22, 23] (by decide +kernel) (by decide +kernel)) (goodIn_sub (fun _ h => List.mem_cons_of_mem _ (List.mem_append_right _ h)) (by decide +kernel))
set_option maxRecDepth 20000 in
theorem gL_open_X0_open : GoodIn wsL_open (wsV RL 7 RX0 yX0_open wsX0_open) := goodIn_app (goodIn_of _ (by decide +kernel)) ggL_open_X0_open
theorem dL_open_0 : decode cL_open 0 = .ok (.aload_n 0, 1) := by decide +kernel
theorem dL_open_1 : decode cL_open 1 = .ok (.iload_n 1, 1) := by decide +kernel
theorem dL_open_2 : decode cL_open 2 = .ok (.iload_n 2, 1) := by decide +kernel
theorem dL_open_3 : decode cL_open 3 = .ok (.iload_n 3, 1) := by decide +kernel
theorem dL_open_4 : decode cL_open 4 = .ok (.invokevirtual 7, 3) := by decide +kernel
theorem dL_open_7 : decode cL_open 7 = .ok (.goto 7, 3) := by decide +kernel
theorem dL_open_10 : decode cL_open 10 = .ok (.astore 4, 2) := by decide +kernel
theorem dL_open_12 : decode cL_open 12 = .ok (.iconst 1, 1) := by decide +kernel
theorem dL_open_13 : decode cL_open 13 = .ok (.ireturn, 1) := by decide +kernel
theorem dL_open_14 : decode cL_open 14 = .ok (.iconst 0, 1) := by decide +kernel
theorem dL_open_15 : decode cL_open 15 = .ok (.ireturn, 1) := by decide +kernel
set_option maxRecDepth 20000 in
theorem ggL_set_X0_set : GoodIn wsL_set wsX0_set := goodIn_ca (goodIn_r _ [6, 7, 8, 9, 10, 11, 5, 12, 13, 14, 15, 16, 17, 18, 19, 20, 21, 22, 23, 24, 25, 26] (by decide +kernel) (by decide +kernel)) (goodIn_sub (fun _ h => List.mem_cons_of_mem _ (List.mem_append_right _ h)) (by decide +kernel))
set_option maxRecDepth 20000 in
theorem gL_set_X0_set : GoodIn wsL_set (wsV RL 15 RX0 yX0_set wsX0_set) := goodIn_app (goodIn_of _ (by decide +kernel)) ggL_set_X0_set
theorem dL_set_0 : decode cL_set 0 = .ok (.aload 4, 2) := by decide +kernel
theorem dL_set_2 : decode cL_set 2 = .ok (.iconst 0, 1) := by decide +kernel
theorem dL_set_3 : decode cL_set 3 = .ok (.aload_n 0, 1) := by decide +kernel
theorem dL_set_4 : decode cL_set 4 = .ok (.iload_n 1, 1) := by decide +kernel
theorem dL_set_5 : decode cL_set 5 = .ok (.iload_n 2, 1) := by decide +kernel
theorem dL_set_6 : decode cL_set 6 = .ok (.iload_n 3, 1) := by decide +kernel
theorem dL_set_7 : decode cL_set 7 = .ok (.invokevirtual 15, 3) := by decide +kernel
theorem dL_set_10 : decode cL_set 10 = .ok (.i2l, 1) := by decide +kernel
theorem dL_set_11 : decode cL_set 11 = .ok (.lastore, 1) := by decide +kernel
theorem dL_set_12 : decode cL_set 12 = .ok (.goto 7, 3) := by decide +kernel
theorem dL_set_15 : decode cL_set 15 = .ok (.astore 5, 2) := by decide +kernel
theorem dL_set_17 : decode cL_set 17 = .ok (.iconst 1, 1) := by decide +kernel
theorem dL_set_18 : decode cL_set 18 = .ok (.ireturn, 1) := by decide +kernel
theorem dL_set_19 : decode cL_set 19 = .ok (.iconst 0, 1) := by decide +kernel
theorem dL_set_20 : decode cL_set 20 = .ok (.ireturn, 1) := by decide +kernel
set_option maxRecDepth 20000 in
theorem ggL_get_X0_get : GoodIn wsL_get wsX0_get := goodIn_ca (goodIn_r _ [6, 7, 8, 9, 10, 11, 5, 12, 13, 14, 15, 16, 17, 18, 19, 20, 21, 22, 23, 24, 25, 26] (by decide +kernel) (by decide +kernel)) (goodIn_sub (fun _ h => List.mem_cons_of_mem _ (List.mem_append_right _ h)) (by decide +kernel))
set_option maxRecDepth 20000 in
theorem gL_get_X0_get : GoodIn wsL_get (wsV RL 19 RX0 yX0_get wsX0_get) := goodIn_app (goodIn_of _ (by decide +kernel)) ggL_get_X0_get
theorem dL_get_0 : decode cL_get 0 = .ok (.aload_n 3, 1) := by decide +kernel
theorem dL_get_1 : decode cL_get 1 = .ok (.iconst 0, 1) := by decide +kernel
theorem dL_get_2 : decode cL_get 2 = .ok (.aload_n 0, 1) := by decide +kernel
theorem dL_get_3 : decode cL_get 3 = .ok (.iload_n 1, 1) := by decide +kernel
theorem dL_get_4 : decode cL_get 4 = .ok (.iload_n 2, 1) := by decide +kernel
theorem dL_get_5 : decode cL_get 5 = .ok (.invokevirtual 19, 3) := by decide +kernel
theorem dL_get_8 : decode cL_get 8 = .ok (.i2l, 1) := by decide +kernel
theorem dL_get_9 : decode cL_get 9 = .ok (.lastore, 1) := by decide +kernel
theorem dL_get_10 : decode cL_get 10 = .ok (.goto 7, 3) := by decide +kernel
theorem dL_get_13 : decode cL_get 13 = .ok (.astore 4, 2) := by decide +kernel
theorem dL_get_15 : decode cL_get 15 = .ok (.iconst 1, 1) := by decide +kernel
theorem dL_get_16 : decode cL_get 16 = .ok (.ireturn, 1) := by decide +kernel
theorem dL_get_17 : decode cL_get 17 = .ok (.iconst 0, 1) := by decide +kernel
theorem dL_get_18 : decode cL_get 18 = .ok (.ireturn, 1) := by decide +kernel
set_option maxRecDepth 20000 in
theorem ggL_filter_X0_filter : GoodIn wsL_filter wsX0_filter := goodIn_ca (goodIn_r _ [6, 7, 8, 9, 5, 10, 11, 12, 13, 14, 15, 16, 17, 18, 19, 20, 21, 22, 23, 24, 25, 26, 27, 28, 29, 30, 31, 32, 33, 34, 35, 36, 37, 38, 39, 40, 41, 42, 43, 44, 45] (by decide +kernel) (by decide +kernel)) (goodIn_sub (fun _ h => List.mem_cons_of_mem _ (List.mem_append_right _ h)) (by decide +kernel))
set_option maxRecDepth 20000 in
theorem gL_filter_X0_filter : GoodIn wsL_filter (wsV RL 23 RX0 yX0_filter wsX0_filter) := goodIn_app (goodIn_of _ (by decide +kernel)) ggL_filter_X0_filter
theorem dL_filter_0 : decode cL_filter 0 = .ok (.aload_n 0, 1) := by decide +kernel
theorem dL_filter_1 : decode cL_filter 1 = .ok (.iload_n 1, 1) := by decide +kernel
theorem dL_filter_2 : decode cL_filter 2 = .ok (.iload_n 2, 1) := by decide +kernel
theorem dL_filter_3 : decode cL_filter 3 = .ok (.invokevirtual 23, 3) := by decide +kernel
theorem dL_filter_6 : decode cL_filter 6 = .ok (.goto 6, 3) := by decide +kernel
theorem dL_filter_9 : decode cL_filter 9 = .ok (.astore_n 3, 1) := by decide +kernel
theorem dL_filter_10 : decode cL_filter 10 = .ok (.iconst 1, 1) := by decide +kernel
theorem dL_filter_11 : decode cL_filter 11 = .ok (.ireturn, 1) := by decide +kernel
theorem dL_filter_12 : decode cL_filter 12 = .ok (.iconst 0, 1) := by decide +kernel
theorem dL_filter_13 : decode cL_filter 13 = .ok (.ireturn, 1) := by decide +kernel
set_option maxRecDepth 20000 in
theorem ggL_plain_X0_plain : GoodIn wsL_plain wsX0_plain := goodIn_ca (goodIn_r _ [6, 7, 8, 9, 5, 10, 11, 12, 13, 14, 15, 16, 17, 18, 19, 20, 21, 22, 23, 24, 25, 26, 27, 28, 29, 30, 31, 32, 33, 34, 35, 36, 37, 38, 39, 40, 41, 42, 43, 44, 45] (by decide +kernel) (by decide +kernel)) (goodIn_sub (fun _ h => List.mem_cons_of_mem _ (List.mem_append_right _ h)) (by decide +kernel))
set_option maxRecDepth 20000 in
theorem gL_plain_X0_plain : GoodIn wsL_plain (wsV RL 27 RX0 yX0_plain wsX0_plain) := goodIn_app (goodIn_of _ (by decide +kernel)) ggL_plain_X0_plain
theorem dL_plain_0 : decode cL_plain 0 = .ok (.aload_n 0, 1) := by decide +kernel
theorem dL_plain_1 : decode cL_plain 1 = .ok (.iload_n 1, 1) := by decide +kernel
theorem dL_plain_2 : decode cL_plain 2 = .ok (.iload_n 2, 1) := by decide +kernel
theorem dL_plain_3 : decode cL_plain 3 = .ok (.invokevirtual 27, 3) := by decide +kernel
theorem dL_plain_6 : decode cL_plain 6 = .ok (.goto 6, 3) := by decide +kernel
theorem dL_plain_9 : decode cL_plain 9 = .ok (.astore_n 3, 1) := by decide +kernel
theorem dL_plain_10 : decode cL_plain 10 = .ok (.iconst 1, 1) := by decide +kernel
theorem dL_plain_11 : decode cL_plain 11 = .ok (.ireturn, 1) := by decide +kernel
theorem dL_plain_12 : decode cL_plain 12 = .ok (.iconst 0, 1) := by decide +kernel
theorem dL_plain_13 : decode cL_plain 13 = .ok (.ireturn, 1) := by decide +kernel
set_option maxRecDepth 20000 in
theorem ggL_undo_X0_undo : GoodIn wsL_undo wsX0_undo := goodIn_ca (goodIn_r _ [6, 7, 8, 9, 10, 11, 12, 13, 14, 5, 15, 16, 17, 18, 19, 20, 21, 22, 23, 24, 25, 26, 27, 28, 29, 30, 31, 32, 33, 34, 35, 36, 37, 38, 39, 40, 41, 42] (by decide +kernel) (by decide +kernel)) (goodIn_sub (fun _ h => List.mem_cons_of_mem _ (List.mem_append_right _ h)) (by decide +kernel))
set_option maxRecDepth 20000 in
theorem gL_undo_X0_undo : GoodIn wsL_undo (wsV RL 30 RX0 yX0_undo wsX0_undo) := goodIn_app (goodIn_of _ (by decide +kernel)) ggL_undo_X0_undo
theorem dL_undo_0 : decode cL_undo 0 = .ok (.aload_n 0, 1) := by decide +kernel
theorem dL_undo_1 : decode cL_undo 1 = .ok (.iload_n 1, 1) := by decide +kernel
theorem dL_undo_2 : decode cL_undo 2 = .ok (.invokevirtual 30, 3) := by decide +kernel
theorem dL_undo_5 : decode cL_undo 5 = .ok (.goto 6, 3) := by decide +kernel
theorem dL_undo_8 : decode cL_undo 8 = .ok (.astore_n 2, 1) := by decide +kernel
theorem dL_undo_9 : decode cL_undo 9 = .ok (.iconst 1, 1) := by decide +kernel
theorem dL_undo_10 : decode cL_undo 10 = .ok (.ireturn, 1) := by decide +kernel
theorem dL_undo_11 : decode cL_undo 11 = .ok (.iconst 0, 1) := by decide +kernel
theorem dL_undo_12 : decode cL_undo 12 = .ok (.ireturn, 1) := by decide +kernel
set_option maxRecDepth 20000 in
theorem ggL_pass_X0_pass : GoodIn wsL_pass wsX0_pass := goodIn_ca (goodIn_r _ [6, 7, 8, 9, 10, 11, 12, 13, 5, 14, 15, 16, 17, 18, 19] (by decide +kernel) (by decide +kernel)) (goodIn_sub (fun _ h => List.mem_cons_of_mem _ (List.mem_append_right _ h)) (by decide +kernel))
set_option maxRecDepth 20000 in
theorem gL_pass_X0_pass : GoodIn wsL_pass (wsV RL 34 RX0 yX0_pass wsX0_pass) := goodIn_app (goodIn_of _ (by decide +kernel)) ggL_pass_X0_pass
theorem dL_pass_0 : decode cL_pass 0 = .ok (.aload 5, 2) := by decide +kernel
theorem dL_pass_2 : decode cL_pass 2 = .ok (.iconst 0, 1) := by decide +kernel
theorem dL_pass_3 : decode cL_pass 3 = .ok (.aload_n 0, 1) := by decide +kernel
theorem dL_pass_4 : decode cL_pass 4 = .ok (.iload_n 1, 1) := by decide +kernel
theorem dL_pass_5 : decode cL_pass 5 = .ok (.iload_n 2, 1) := by decide +kernel
theorem dL_pass_6 : decode cL_pass 6 = .ok (.iload_n 3, 1) := by decide +kernel
theorem dL_pass_7 : decode cL_pass 7 = .ok (.iload 4, 2) := by decide +kernel
theorem dL_pass_9 : decode cL_pass 9 = .ok (.invokevirtual 34, 3) := by decide +kernel
theorem dL_pass_12 : decode cL_pass 12 = .ok (.i2l, 1) := by decide +kernel
theorem dL_pass_13 : decode cL_pass 13 = .ok (.lastore, 1) := by decide +kernel
theorem dL_pass_14 : decode cL_pass 14 = .ok (.goto 7, 3) := by decide +kernel
theorem dL_pass_17 : decode cL_pass 17 = .ok (.astore 6, 2) := by decide +kernel
theorem dL_pass_19 : decode cL_pass 19 = .ok (.iconst 1, 1) := by decide +kernel
theorem dL_pass_20 : decode cL_pass 20 = .ok (.ireturn, 1) := by decide +kernel
theorem dL_pass_21 : decode cL_pass 21 = .ok (.iconst 0, 1) := by decide +kernel
theorem dL_pass_22 : decode cL_pass 22 = .ok (.ireturn, 1) := by decide +kernel
set_option maxRecDepth 20000 in
theorem ggL_passOf_X0_passOf : GoodIn wsL_passOf wsX0_passOf := goodIn_ca (goodIn_r _ [6, 7, 8, 9, 10, 11, 12, 13, 5, 14, 15, 16] (by decide +kernel) (by decide +kernel)) (goodIn_sub (fun _ h => List.mem_cons_of_mem _ (List.mem_append_right _ h)) (by decide +kernel))
set_option maxRecDepth 20000 in
theorem gL_passOf_X0_passOf : GoodIn wsL_passOf (wsV RL 38 RX0 yX0_passOf wsX0_passOf) := goodIn_app (goodIn_of _ (by decide +kernel)) ggL_passOf_X0_passOf
theorem dL_passOf_0 : decode cL_passOf 0 = .ok (.aload_n 3, 1) := by decide +kernel
theorem dL_passOf_1 : decode cL_passOf 1 = .ok (.iconst 0, 1) := by decide +kernel
theorem dL_passOf_2 : decode cL_passOf 2 = .ok (.aload_n 0, 1) := by decide +kernel
theorem dL_passOf_3 : decode cL_passOf 3 = .ok (.iload_n 1, 1) := by decide +kernel
theorem dL_passOf_4 : decode cL_passOf 4 = .ok (.iload_n 2, 1) := by decide +kernel
theorem dL_passOf_5 : decode cL_passOf 5 = .ok (.invokevirtual 38, 3) := by decide +kernel
theorem dL_passOf_8 : decode cL_passOf 8 = .ok (.i2l, 1) := by decide +kernel
theorem dL_passOf_9 : decode cL_passOf 9 = .ok (.lastore, 1) := by decide +kernel
theorem dL_passOf_10 : decode cL_passOf 10 = .ok (.goto 7, 3) := by decide +kernel
theorem dL_passOf_13 : decode cL_passOf 13 = .ok (.astore 4, 2) := by decide +kernel
theorem dL_passOf_15 : decode cL_passOf 15 = .ok (.iconst 1, 1) := by decide +kernel
theorem dL_passOf_16 : decode cL_passOf 16 = .ok (.ireturn, 1) := by decide +kernel
theorem dL_passOf_17 : decode cL_passOf 17 = .ok (.iconst 0, 1) := by decide +kernel
theorem dL_passOf_18 : decode cL_passOf 18 = .ok (.ireturn, 1) := by decide +kernel
