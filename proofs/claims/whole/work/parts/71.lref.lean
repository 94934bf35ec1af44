def wsM0 : List Cond := [.code yY1_init cY1_init 1 none, .code objectInit ⟨#[0xb1]⟩ 1 none, .code yY1_open cY1_open 5 none, .code yY1_thrown cY1_thrown 1 (some .int), .code yY1_set cY1_set 5 (some .int), .code yY1_out cY1_out 3 (some .boolean), .code yY1_fail cY1_fail 2 (some .int), .code yY1_get cY1_get 3 (some .int), .code yY1_fill cY1_fill 5 none, .code yY1_filter cY1_filter 5 none, .code yY1_bad cY1_bad 3 (some .boolean), .code yY1_tell cY1_tell 6 (some .int), .code yY1_guess cY1_guess 11 (some .int), .code Lib.Math.abs.name Lib.Math.abs.code 1 (some .int), .code yY1_at cY1_at 3 (some .int), .code yY1_plain cY1_plain 3 none, .code yY1_untell cY1_untell 4 none, .code yY1_best cY1_best 7 (some .int), .code yY1_undo cY1_undo 4 none, .code yY1_hash cY1_hash 3 (some .int), .code yY1_pass cY1_pass 8 (some .int), .code yY1_column cY1_column 3 (some .boolean), .code yY1_line cY1_line 3 (some .boolean), .code yY1_passOf cY1_passOf 4 (some .int)]
def wsM1 : List Cond := [.methodLink RL 44 yY1_init, .instanceMethod yY1_init, .initialized RX1, .methodLink RX1 1 objectInit, .instanceMethod objectInit, .fieldLink RX1 7 "RowFiltersModel" "height" "I", .fieldLink RX1 13 "RowFiltersModel" "width" "I", .fieldLink RX1 16 "RowFiltersModel" "step" "I", .arrayClass .int, .fieldLink RX1 19 "RowFiltersModel" "bytes" "[I", .fieldLink RX1 23 "RowFiltersModel" "told" "[I", .methodLink RL 50 yY1_open, .instanceMethod yY1_open, .selects RX1 yY1_open yY1_open, .fieldLink RX1 26 "RowFiltersModel" "failed" "I", .methodLink RL 51 yY1_thrown, .instanceMethod yY1_thrown, .selects RX1 yY1_thrown yY1_thrown, .methodLink RL 58 yY1_set, .instanceMethod yY1_set, .selects RX1 yY1_set yY1_set, .methodLink RX1 29 yY1_out, .instanceMethod yY1_out, .selects RX1 yY1_out yY1_out]
def wsM2 : List Cond := [.methodLink RX1 33 yY1_fail, .instanceMethod yY1_fail, .selects RX1 yY1_fail yY1_fail, .methodLink RL 62 yY1_get, .instanceMethod yY1_get, .selects RX1 yY1_get yY1_get, .methodLink RL 66 yY1_fill, .instanceMethod yY1_fill, .selects RX1 yY1_fill yY1_fill, .methodLink RL 70 yY1_filter, .instanceMethod yY1_filter, .selects RX1 yY1_filter yY1_filter, .methodLink RX1 50 yY1_bad, .instanceMethod yY1_bad, .selects RX1 yY1_bad yY1_bad, .methodLink RX1 53 yY1_tell, .instanceMethod yY1_tell, .selects RX1 yY1_tell yY1_tell, .methodLink RX1 46 yY1_guess, .instanceMethod yY1_guess, .selects RX1 yY1_guess yY1_guess, .methodLink RX1 37 yY1_at, .instanceMethod yY1_at, .selects RX1 yY1_at yY1_at]
def wsM3 : List Cond := [.methodLink RX1 41 Lib.Math.abs.name, .static Lib.Math.abs.name, .initialized "java/lang/Math", .methodLink RL 73 yY1_plain, .instanceMethod yY1_plain, .selects RX1 yY1_plain yY1_plain, .methodLink RX1 56 yY1_untell, .instanceMethod yY1_untell, .selects RX1 yY1_untell yY1_untell, .methodLink RL 77 yY1_best, .instanceMethod yY1_best, .selects RX1 yY1_best yY1_best, .methodLink RL 81 yY1_undo, .instanceMethod yY1_undo, .selects RX1 yY1_undo yY1_undo, .constant RX1 60 (390624), .methodLink RL 85 yY1_hash, .instanceMethod yY1_hash, .selects RX1 yY1_hash yY1_hash, .methodLink RL 89 yY1_pass, .instanceMethod yY1_pass, .selects RX1 yY1_pass yY1_pass, .constant RX1 61 (100000), .methodLink RX1 62 yY1_column]
def wsM4 : List Cond := [.instanceMethod yY1_column, .selects RX1 yY1_column yY1_column, .methodLink RX1 65 yY1_line, .instanceMethod yY1_line, .selects RX1 yY1_line yY1_line, .methodLink RL 92 yY1_passOf, .instanceMethod yY1_passOf, .selects RX1 yY1_passOf yY1_passOf, .constant RX1 68 (99999), .classLink RL 42 RX1, .instantiable RX1 6, .arrayClass .long]
def wsM : List Cond := wsM0 ++ (wsM1 ++ (wsM2 ++ (wsM3 ++ (wsM4 ++ wsY10))))
set_option maxRecDepth 20000 in
theorem wsM_in : ∀ w ∈ wsM, w ∈ lw_tbl := fun w h => (goodIn_p wsM [252, 34, 280, 276, 284, 288, 292, 296, 300, 304, 308, 312, 316, 78, 320, 325, 329, 333, 337, 342, 346, 351, 355, 359] (by decide +kernel) (by decide +kernel) w h).1
set_option maxRecDepth 20000 in
theorem gL_law_Y1_init : GoodIn wsM wsY1_init := goodIn_p _ [0, 1] (by decide +kernel) (by decide +kernel)
set_option maxRecDepth 20000 in
theorem gL_law_Y1_open : GoodIn wsM (wsV RL 50 RX1 yY1_open wsY1_open) := goodIn_p _ [2] (by decide +kernel) (by decide +kernel)
set_option maxRecDepth 20000 in
theorem gL_law_Y1_thrown : GoodIn wsM (wsV RL 51 RX1 yY1_thrown wsY1_thrown) := goodIn_p _ [3] (by decide +kernel) (by decide +kernel)
set_option maxRecDepth 20000 in
theorem gL_law_Y1_set : GoodIn wsM (wsV RL 58 RX1 yY1_set wsY1_set) := goodIn_p _ [4, 5, 6] (by decide +kernel) (by decide +kernel)
set_option maxRecDepth 20000 in
theorem gL_law_Y1_get : GoodIn wsM (wsV RL 62 RX1 yY1_get wsY1_get) := goodIn_p _ [7, 5, 6] (by decide +kernel) (by decide +kernel)
set_option maxRecDepth 20000 in
theorem gL_law_Y1_fill : GoodIn wsM (wsV RL 66 RX1 yY1_fill wsY1_fill) := goodIn_p _ [8] (by decide +kernel) (by decide +kernel)
set_option maxRecDepth 20000 in
theorem gL_law_Y1_filter : GoodIn wsM (wsV RL 70 RX1 yY1_filter wsY1_filter) := goodIn_p _ [9, 10, 11, 12, 13, 14] (by decide +kernel) (by decide +kernel)
set_option maxRecDepth 20000 in
theorem gL_law_Y1_plain : GoodIn wsM (wsV RL 73 RX1 yY1_plain wsY1_plain) := goodIn_p _ [15, 10, 16, 12, 13, 14] (by decide +kernel) (by decide +kernel)
set_option maxRecDepth 20000 in
theorem gL_law_Y1_best : GoodIn wsM (wsV RL 77 RX1 yY1_best wsY1_best) := goodIn_p _ [17, 11, 12, 13, 14] (by decide +kernel) (by decide +kernel)
set_option maxRecDepth 20000 in
theorem gL_law_Y1_undo : GoodIn wsM (wsV RL 81 RX1 yY1_undo wsY1_undo) := goodIn_p _ [18, 16, 12, 13, 14] (by decide +kernel) (by decide +kernel)
set_option maxRecDepth 20000 in
theorem gL_law_Y1_hash : GoodIn wsM (wsV RL 85 RX1 yY1_hash wsY1_hash) := goodIn_p _ [19] (by decide +kernel) (by decide +kernel)
set_option maxRecDepth 20000 in
theorem gL_law_Y1_pass : GoodIn wsM (wsV RL 89 RX1 yY1_pass wsY1_pass) := goodIn_p _ [20, 6, 21, 22] (by decide +kernel) (by decide +kernel)
set_option maxRecDepth 20000 in
theorem gL_law_Y1_passOf : GoodIn wsM (wsV RL 92 RX1 yY1_passOf wsY1_passOf) := goodIn_p _ [23, 6, 21, 22] (by decide +kernel) (by decide +kernel)
