section
def lw_okq (q : MethodName × Nat) : Prop := (q.1.cls ≠ "java/lang/invoke/MethodHandle" ∧ q.1.cls ≠ "java/lang/invoke/VarHandle") ∧ Cond.instantiable q.1.cls q.2 ∈ tables_1 ∧ Cond.privateMethod q.1 ∈ tables_1 ∧ Cond.instanceMethod q.1 ∈ tables_1
theorem lw_p0 : lw_okq (⟨"RowFilters", "leastFilter", "(I)I"⟩, 4) := ⟨⟨by decide +kernel, by decide +kernel⟩, List.mem_of_getElem? (i := 10) (by decide +kernel), List.mem_of_getElem? (i := 40) (by decide +kernel), List.mem_of_getElem? (i := 41) (by decide +kernel)⟩
theorem lw_p1 : lw_okq (⟨"RowFilters", "sumTold", "(II)I"⟩, 4) := ⟨⟨by decide +kernel, by decide +kernel⟩, List.mem_of_getElem? (i := 10) (by decide +kernel), List.mem_of_getElem? (i := 44) (by decide +kernel), List.mem_of_getElem? (i := 45) (by decide +kernel)⟩
theorem lw_p2 : lw_okq (⟨"RowFilters", "byteOrZero", "(II)I"⟩, 4) := ⟨⟨by decide +kernel, by decide +kernel⟩, List.mem_of_getElem? (i := 10) (by decide +kernel), List.mem_of_getElem? (i := 48) (by decide +kernel), List.mem_of_getElem? (i := 49) (by decide +kernel)⟩
theorem lw_p3 : lw_okq (⟨"RowFilters", "foretold", "(III)I"⟩, 4) := ⟨⟨by decide +kernel, by decide +kernel⟩, List.mem_of_getElem? (i := 10) (by decide +kernel), List.mem_of_getElem? (i := 52) (by decide +kernel), List.mem_of_getElem? (i := 53) (by decide +kernel)⟩
theorem lw_p4 : lw_okq (⟨"RowFilters", "tellRow", "(II)V"⟩, 4) := ⟨⟨by decide +kernel, by decide +kernel⟩, List.mem_of_getElem? (i := 10) (by decide +kernel), List.mem_of_getElem? (i := 62) (by decide +kernel), List.mem_of_getElem? (i := 63) (by decide +kernel)⟩
theorem lw_p5 : lw_okq (⟨"java/lang/Throwable", "fillInStackTrace", "(I)Ljava/lang/Throwable;"⟩, 6) := ⟨⟨by decide +kernel, by decide +kernel⟩, List.mem_of_getElem? (i := 117) (by decide +kernel), List.mem_of_getElem? (i := 115) (by decide +kernel), List.mem_of_getElem? (i := 116) (by decide +kernel)⟩
theorem lw_p6 : lw_okq (⟨"RowFilters", "requireByte", "(II)V"⟩, 4) := ⟨⟨by decide +kernel, by decide +kernel⟩, List.mem_of_getElem? (i := 10) (by decide +kernel), List.mem_of_getElem? (i := 157) (by decide +kernel), List.mem_of_getElem? (i := 158) (by decide +kernel)⟩
theorem lw_p7 : lw_okq (⟨"RowFilters", "requireRow", "(I)V"⟩, 4) := ⟨⟨by decide +kernel, by decide +kernel⟩, List.mem_of_getElem? (i := 10) (by decide +kernel), List.mem_of_getElem? (i := 161) (by decide +kernel), List.mem_of_getElem? (i := 162) (by decide +kernel)⟩
theorem lw_p8 : lw_okq (⟨"RowFilters", "restoreRow", "(II)V"⟩, 4) := ⟨⟨by decide +kernel, by decide +kernel⟩, List.mem_of_getElem? (i := 10) (by decide +kernel), List.mem_of_getElem? (i := 189) (by decide +kernel), List.mem_of_getElem? (i := 190) (by decide +kernel)⟩
theorem lw_p9 : lw_okq (⟨"RowFiltersModel", "out", "(II)Z"⟩, 6) := ⟨⟨by decide +kernel, by decide +kernel⟩, List.mem_of_getElem? (i := 231) (by decide +kernel), List.mem_of_getElem? (i := 268) (by decide +kernel), List.mem_of_getElem? (i := 269) (by decide +kernel)⟩
theorem lw_p10 : lw_okq (⟨"RowFiltersModel", "fail", "(I)I"⟩, 6) := ⟨⟨by decide +kernel, by decide +kernel⟩, List.mem_of_getElem? (i := 231) (by decide +kernel), List.mem_of_getElem? (i := 272) (by decide +kernel), List.mem_of_getElem? (i := 273) (by decide +kernel)⟩
theorem lw_p11 : lw_okq (⟨"RowFiltersModel", "bad", "(II)Z"⟩, 6) := ⟨⟨by decide +kernel, by decide +kernel⟩, List.mem_of_getElem? (i := 231) (by decide +kernel), List.mem_of_getElem? (i := 288) (by decide +kernel), List.mem_of_getElem? (i := 289) (by decide +kernel)⟩
theorem lw_p12 : lw_okq (⟨"RowFiltersModel", "tell", "(II)I"⟩, 6) := ⟨⟨by decide +kernel, by decide +kernel⟩, List.mem_of_getElem? (i := 231) (by decide +kernel), List.mem_of_getElem? (i := 292) (by decide +kernel), List.mem_of_getElem? (i := 293) (by decide +kernel)⟩
theorem lw_p13 : lw_okq (⟨"RowFiltersModel", "guess", "(III)I"⟩, 6) := ⟨⟨by decide +kernel, by decide +kernel⟩, List.mem_of_getElem? (i := 231) (by decide +kernel), List.mem_of_getElem? (i := 296) (by decide +kernel), List.mem_of_getElem? (i := 297) (by decide +kernel)⟩
theorem lw_p14 : lw_okq (⟨"RowFiltersModel", "at", "(II)I"⟩, 6) := ⟨⟨by decide +kernel, by decide +kernel⟩, List.mem_of_getElem? (i := 231) (by decide +kernel), List.mem_of_getElem? (i := 300) (by decide +kernel), List.mem_of_getElem? (i := 301) (by decide +kernel)⟩
theorem lw_p15 : lw_okq (⟨"RowFiltersModel", "untell", "(II)V"⟩, 6) := ⟨⟨by decide +kernel, by decide +kernel⟩, List.mem_of_getElem? (i := 231) (by decide +kernel), List.mem_of_getElem? (i := 309) (by decide +kernel), List.mem_of_getElem? (i := 310) (by decide +kernel)⟩
def lw_privs_1 : List (MethodName × Nat) := [(⟨"RowFilters", "leastFilter", "(I)I"⟩, 4), (⟨"RowFilters", "sumTold", "(II)I"⟩, 4), (⟨"RowFilters", "byteOrZero", "(II)I"⟩, 4), (⟨"RowFilters", "foretold", "(III)I"⟩, 4), (⟨"RowFilters", "tellRow", "(II)V"⟩, 4), (⟨"java/lang/Throwable", "fillInStackTrace", "(I)Ljava/lang/Throwable;"⟩, 6), (⟨"RowFilters", "requireByte", "(II)V"⟩, 4), (⟨"RowFilters", "requireRow", "(I)V"⟩, 4), (⟨"RowFilters", "restoreRow", "(II)V"⟩, 4), (⟨"RowFiltersModel", "out", "(II)Z"⟩, 6), (⟨"RowFiltersModel", "fail", "(I)I"⟩, 6), (⟨"RowFiltersModel", "bad", "(II)Z"⟩, 6), (⟨"RowFiltersModel", "tell", "(II)I"⟩, 6), (⟨"RowFiltersModel", "guess", "(III)I"⟩, 6), (⟨"RowFiltersModel", "at", "(II)I"⟩, 6), (⟨"RowFiltersModel", "untell", "(II)V"⟩, 6)]
theorem lw_r1 : ∀ q ∈ lw_privs_1, lw_okq q := List.forall_mem_cons.mpr ⟨lw_p0, List.forall_mem_cons.mpr ⟨lw_p1, List.forall_mem_cons.mpr ⟨lw_p2, List.forall_mem_cons.mpr ⟨lw_p3, List.forall_mem_cons.mpr ⟨lw_p4, List.forall_mem_cons.mpr ⟨lw_p5, List.forall_mem_cons.mpr ⟨lw_p6, List.forall_mem_cons.mpr ⟨lw_p7, List.forall_mem_cons.mpr ⟨lw_p8, List.forall_mem_cons.mpr ⟨lw_p9, List.forall_mem_cons.mpr ⟨lw_p10, List.forall_mem_cons.mpr ⟨lw_p11, List.forall_mem_cons.mpr ⟨lw_p12, List.forall_mem_cons.mpr ⟨lw_p13, List.forall_mem_cons.mpr ⟨lw_p14, List.forall_mem_cons.mpr ⟨lw_p15, fun _ h => absurd h List.not_mem_nil⟩⟩⟩⟩⟩⟩⟩⟩⟩⟩⟩⟩⟩⟩⟩⟩
theorem lw_p16 : lw_okq (⟨"RowFiltersModel", "column", "(II)Z"⟩, 6) := ⟨⟨by decide +kernel, by decide +kernel⟩, List.mem_of_getElem? (i := 231) (by decide +kernel), List.mem_of_getElem? (i := 331) (by decide +kernel), List.mem_of_getElem? (i := 332) (by decide +kernel)⟩
theorem lw_p17 : lw_okq (⟨"RowFiltersModel", "line", "(II)Z"⟩, 6) := ⟨⟨by decide +kernel, by decide +kernel⟩, List.mem_of_getElem? (i := 231) (by decide +kernel), List.mem_of_getElem? (i := 335) (by decide +kernel), List.mem_of_getElem? (i := 336) (by decide +kernel)⟩
def lw_privs_2 : List (MethodName × Nat) := [(⟨"RowFiltersModel", "column", "(II)Z"⟩, 6), (⟨"RowFiltersModel", "line", "(II)Z"⟩, 6)]
theorem lw_r2 : ∀ q ∈ lw_privs_2, lw_okq q := List.forall_mem_cons.mpr ⟨lw_p16, List.forall_mem_cons.mpr ⟨lw_p17, fun _ h => absurd h List.not_mem_nil⟩⟩
def lw_privs : List (MethodName × Nat) := lw_privs_1 ++ (lw_privs_2)
def lw_tbl : List Cond := k2_sels lw_privs ++ tables_1
theorem lw_privs_ok : ∀ q ∈ lw_privs, lw_okq q := by
  show ∀ q ∈ lw_privs_1 ++ (lw_privs_2), lw_okq q
  exact List.forall_mem_append.mpr ⟨lw_r1, lw_r2⟩
end
section
theorem goodIn_r {big : List Cond} (ws : List Cond) (ps : List Nat) (hp : ws = ps.filterMap (fun i => big[i]?)) (h : ws.all goodWord = true) : GoodIn big ws := by
  intro w hw
  have h1 := List.all_eq_true.mp h w hw
  rw [hp] at hw
  obtain ⟨i, -, hi⟩ := List.mem_filterMap.mp hw
  have hm : w ∈ big := by first | exact List.mem_of_getElem? hi | exact List.getElem?_mem hi
  exact ⟨hm, good_of_word h1⟩
theorem goodIn_app {big a b : List Cond} (ha : GoodIn big a) (hb : GoodIn big b) : GoodIn big (a ++ b) := fun w h => (List.mem_append.mp h).elim (ha w) (hb w)
theorem goodIn_ca {big a b : List Cond} {c : Cond} (ha : GoodIn big (c :: a)) (hb : GoodIn big b) : GoodIn big (c :: (a ++ b)) := fun w h => (List.mem_cons.mp h).elim (fun e => ha w (List.mem_cons.mpr (Or.inl e))) (fun h => (List.mem_append.mp h).elim (fun h => ha w (List.mem_cons.mpr (Or.inr h))) (hb w))
theorem goodIn_sub {big ws : List Cond} (hm : ∀ w ∈ ws, w ∈ big) (h : ws.all goodWord = true) : GoodIn big ws := fun w hw => ⟨hm w hw, good_of_word (List.all_eq_true.mp h w hw)⟩
def vx_no (w : Cond) : Bool := decide (w ≠ .isRef (.static Bundle.tN "UNASSIGNED_STACK" Bundle.steD)) && decide (w ≠ .isRef (.static Bundle.tN "SUPPRESSED_SENTINEL" Bundle.listD)) && decide (w ≠ .laysStatic Bundle.tN "UNASSIGNED_STACK" Bundle.steD) && decide (w ≠ .laysStatic Bundle.tN "SUPPRESSED_SENTINEL" Bundle.listD)
def vx_at0 (own : String) (ic : Nat) (X : String) (names : List String) : List Cond := (Bundle.ownAtoms0 own ic X names).filter vx_no
def vx_atS (own : String) (ic : Nat) (X : String) (names : List String) : List Cond := (Bundle.ownAtoms own ic X names).filter vx_no
end
section
def RX0 : String := "RowFilters"
def TX0 : u_T := fun k => match k with
  | 0 => ("RowFilters", "bytes", "[I", true)
  | 1 => ("RowFilters", "rowCount", "I", false)
  | 2 => ("RowFilters", "rowLength", "I", false)
  | _ => ("RowFilters", "pointSize", "I", false)
def tyX0 : Nat → FieldType := fun k => match k with
  | 0 => .array .int
  | 1 => .int
  | 2 => .int
  | _ => .int
abbrev wsX00 : List Cond := u_ws RX0 TX0 4
theorem nmX0 : ∀ a, a < 4 → ∀ b, b < 4 → a ≠ b → (TX0 a).2.1 ≠ (TX0 b).2.1 := by decide +kernel
theorem tyX0_ok : ∀ k, k < 4 → parseFieldDescriptor (TX0 k).2.2.1 = some (tyX0 k) := by decide +kernel
abbrev cX0_init : ByteArray := prog_1_method_1_code
def yX0_init : MethodName := ⟨RX0, "<init>", "()V"⟩
abbrev cX0_open : ByteArray := prog_1_method_2_code
def yX0_open : MethodName := ⟨RX0, "open", "(III)V"⟩
abbrev cX0_set : ByteArray := prog_1_method_3_code
def yX0_set : MethodName := ⟨RX0, "set", "(III)I"⟩
abbrev cX0_get : ByteArray := prog_1_method_4_code
def yX0_get : MethodName := ⟨RX0, "get", "(II)I"⟩
abbrev cX0_fill : ByteArray := prog_1_method_5_code
def yX0_fill : MethodName := ⟨RX0, "fill", "(III)V"⟩
abbrev cX0_filter : ByteArray := prog_1_method_6_code
def yX0_filter : MethodName := ⟨RX0, "filter", "(II)V"⟩
abbrev cX0_plain : ByteArray := prog_1_method_7_code
def yX0_plain : MethodName := ⟨RX0, "plain", "(II)V"⟩
abbrev cX0_best : ByteArray := prog_1_method_8_code
def yX0_best : MethodName := ⟨RX0, "best", "()I"⟩
abbrev cX0_undo : ByteArray := prog_1_method_9_code
def yX0_undo : MethodName := ⟨RX0, "undo", "(I)V"⟩
abbrev cX0_hash : ByteArray := prog_1_method_10_code
def yX0_hash : MethodName := ⟨RX0, "hash", "()I"⟩
abbrev cX0_pass : ByteArray := prog_1_method_11_code
def yX0_pass : MethodName := ⟨RX0, "pass", "(IIIZ)I"⟩
abbrev cX0_passOf : ByteArray := prog_1_method_12_code
def yX0_passOf : MethodName := ⟨RX0, "passOf", "(II)I"⟩
abbrev cX0_tellRow : ByteArray := prog_1_method_13_code
def yX0_tellRow : MethodName := ⟨RX0, "tellRow", "(II)V"⟩
abbrev cX0_restoreRow : ByteArray := prog_1_method_14_code
def yX0_restoreRow : MethodName := ⟨RX0, "restoreRow", "(II)V"⟩
abbrev cX0_leastFilter : ByteArray := prog_1_method_15_code
def yX0_leastFilter : MethodName := ⟨RX0, "leastFilter", "(I)I"⟩
abbrev cX0_sumTold : ByteArray := prog_1_method_16_code
def yX0_sumTold : MethodName := ⟨RX0, "sumTold", "(II)I"⟩
abbrev cX0_foretold : ByteArray := prog_1_method_17_code
def yX0_foretold : MethodName := ⟨RX0, "foretold", "(III)I"⟩
abbrev cX0_nearest : ByteArray := prog_1_method_18_code
def yX0_nearest : MethodName := ⟨RX0, "nearest", "(III)I"⟩
abbrev cX0_byteOrZero : ByteArray := prog_1_method_19_code
def yX0_byteOrZero : MethodName := ⟨RX0, "byteOrZero", "(II)I"⟩
abbrev cX0_pointsAlong : ByteArray := prog_1_method_20_code
def yX0_pointsAlong : MethodName := ⟨RX0, "pointsAlong", "(III)I"⟩
abbrev cX0_requireByte : ByteArray := prog_1_method_21_code
def yX0_requireByte : MethodName := ⟨RX0, "requireByte", "(II)V"⟩
abbrev cX0_requireRow : ByteArray := prog_1_method_22_code
def yX0_requireRow : MethodName := ⟨RX0, "requireRow", "(I)V"⟩
abbrev cX0_requireFilter : ByteArray := prog_1_method_23_code
def yX0_requireFilter : MethodName := ⟨RX0, "requireFilter", "(I)V"⟩
abbrev cX0_requireWithin : ByteArray := prog_1_method_24_code
def yX0_requireWithin : MethodName := ⟨RX0, "requireWithin", "(III)V"⟩
def RX1 : String := "RowFiltersModel"
def RJ9 : String := "java/lang/Math"
def TJ9 : u_T := fun k => match k with
  | _ => ("", "", "", false)
def tyJ9 : Nat → FieldType := fun k => match k with
  | _ => .int
abbrev wsJ90 : List Cond := u_ws RJ9 TJ9 0
theorem nmJ9 : ∀ a, a < 0 → ∀ b, b < 0 → a ≠ b → (TJ9 a).2.1 ≠ (TJ9 b).2.1 := by decide +kernel
theorem tyJ9_ok : ∀ k, k < 0 → parseFieldDescriptor (TJ9 k).2.2.1 = some (tyJ9 k) := by decide +kernel
abbrev cJ9_abs_0f7a4 : ByteArray := prog_6_method_59_code
def yJ9_abs_0f7a4 : MethodName := ⟨RJ9, "abs", "(I)I"⟩
abbrev cJ9_min_7cf53 : ByteArray := prog_6_method_69_code
def yJ9_min_7cf53 : MethodName := ⟨RJ9, "min", "(II)I"⟩
def RJ0 : String := "java/lang/String"
def TJ0 : u_T := fun k => match k with
  | _ => ("", "", "", false)
def tyJ0 : Nat → FieldType := fun k => match k with
  | _ => .int
abbrev wsJ00 : List Cond := u_ws RJ0 TJ0 0
theorem nmJ0 : ∀ a, a < 0 → ∀ b, b < 0 → a ≠ b → (TJ0 a).2.1 ≠ (TJ0 b).2.1 := by decide +kernel
theorem tyJ0_ok : ∀ k, k < 0 → parseFieldDescriptor (TJ0 k).2.2.1 = some (tyJ0 k) := by decide +kernel
def RJ7 : String := "java/util/Arrays"
def TJ7 : u_T := fun k => match k with
  | _ => ("", "", "", false)
def tyJ7 : Nat → FieldType := fun k => match k with
  | _ => .int
abbrev wsJ70 : List Cond := u_ws RJ7 TJ7 0
theorem nmJ7 : ∀ a, a < 0 → ∀ b, b < 0 → a ≠ b → (TJ7 a).2.1 ≠ (TJ7 b).2.1 := by decide +kernel
theorem tyJ7_ok : ∀ k, k < 0 → parseFieldDescriptor (TJ7 k).2.2.1 = some (tyJ7 k) := by decide +kernel
abbrev cJ7_fill_53178 : ByteArray := prog_10_method_103_code
def yJ7_fill_53178 : MethodName := ⟨RJ7, "fill", "([II)V"⟩
def wsX0_init : List Cond := .code yX0_init cX0_init 1 none :: ([.methodLink RX0 1 objectInit, .instanceMethod objectInit, .code objectInit ⟨#[0xb1]⟩ 1 none, .arrayClass .int, .fieldLink RX0 9 "RowFilters" "bytes" "[I", .fieldLink RX0 13 "RowFilters" "rowCount" "I", .fieldLink RX0 17 "RowFilters" "rowLength" "I", .fieldLink RX0 20 "RowFilters" "pointSize" "I"] ++ wsX00)
def wsX0_requireWithin : List Cond := .code yX0_requireWithin cX0_requireWithin 3 none :: ([.classLink RX0 94 "java/lang/IllegalArgumentException", .initialized "java/lang/IllegalArgumentException"] ++ (vx_atS RX0 98 "java/lang/IllegalArgumentException" ["java/lang/RuntimeException", "java/lang/Exception"]).filter goodWord)
def wsJ7_fill_53178 : List Cond := .code yJ7_fill_53178 cJ7_fill_53178 4 none :: ([])
def wsX0_open : List Cond := .code yX0_open cX0_open 4 none :: ([.fieldLink RX0 13 "RowFilters" "rowCount" "I", .fieldLink RX0 17 "RowFilters" "rowLength" "I", .fieldLink RX0 20 "RowFilters" "pointSize" "I", .fieldLink RX0 9 "RowFilters" "bytes" "[I", .methodLink RX0 23 yX0_requireWithin, .static yX0_requireWithin, .initialized RX0, .code yX0_requireWithin cX0_requireWithin 3 none, .classLink RX0 94 "java/lang/IllegalArgumentException", .initialized "java/lang/IllegalArgumentException", .methodLink RX0 27 yJ7_fill_53178, .static yJ7_fill_53178, .initialized RJ7, .code yJ7_fill_53178 cJ7_fill_53178 4 none] ++ wsX00 ++ (vx_atS RX0 98 "java/lang/IllegalArgumentException" ["java/lang/RuntimeException", "java/lang/Exception"]).filter goodWord)
def wsX0_requireRow : List Cond := .code yX0_requireRow cX0_requireRow 2 none :: ([.fieldLink RX0 13 "RowFilters" "rowCount" "I", .methodLink RX0 23 yX0_requireWithin, .static yX0_requireWithin, .initialized RX0, .code yX0_requireWithin cX0_requireWithin 3 none, .classLink RX0 94 "java/lang/IllegalArgumentException", .initialized "java/lang/IllegalArgumentException"] ++ wsX00 ++ (vx_atS RX0 98 "java/lang/IllegalArgumentException" ["java/lang/RuntimeException", "java/lang/Exception"]).filter goodWord)
def wsX0_requireByte : List Cond := .code yX0_requireByte cX0_requireByte 3 none :: ([.fieldLink RX0 17 "RowFilters" "rowLength" "I", .methodLink RX0 37 yX0_requireRow, .instanceMethod yX0_requireRow, .selects RX0 yX0_requireRow yX0_requireRow, .initialized RX0, .code yX0_requireRow cX0_requireRow 2 none, .fieldLink RX0 13 "RowFilters" "rowCount" "I", .methodLink RX0 23 yX0_requireWithin, .static yX0_requireWithin, .code yX0_requireWithin cX0_requireWithin 3 none, .classLink RX0 94 "java/lang/IllegalArgumentException", .initialized "java/lang/IllegalArgumentException"] ++ wsX00 ++ (vx_atS RX0 98 "java/lang/IllegalArgumentException" ["java/lang/RuntimeException", "java/lang/Exception"]).filter goodWord)
def wsX0_set : List Cond := .code yX0_set cX0_set 6 (some .int) :: ([.fieldLink RX0 17 "RowFilters" "rowLength" "I", .fieldLink RX0 9 "RowFilters" "bytes" "[I", .methodLink RX0 33 yX0_requireByte, .instanceMethod yX0_requireByte, .selects RX0 yX0_requireByte yX0_requireByte, .initialized RX0, .code yX0_requireByte cX0_requireByte 3 none, .methodLink RX0 37 yX0_requireRow, .instanceMethod yX0_requireRow, .selects RX0 yX0_requireRow yX0_requireRow, .code yX0_requireRow cX0_requireRow 2 none, .fieldLink RX0 13 "RowFilters" "rowCount" "I", .methodLink RX0 23 yX0_requireWithin, .static yX0_requireWithin, .code yX0_requireWithin cX0_requireWithin 3 none, .classLink RX0 94 "java/lang/IllegalArgumentException", .initialized "java/lang/IllegalArgumentException"] ++ wsX00 ++ (vx_atS RX0 98 "java/lang/IllegalArgumentException" ["java/lang/RuntimeException", "java/lang/Exception"]).filter goodWord)
def wsX0_get : List Cond := .code yX0_get cX0_get 3 (some .int) :: ([.fieldLink RX0 9 "RowFilters" "bytes" "[I", .fieldLink RX0 17 "RowFilters" "rowLength" "I", .methodLink RX0 33 yX0_requireByte, .instanceMethod yX0_requireByte, .selects RX0 yX0_requireByte yX0_requireByte, .initialized RX0, .code yX0_requireByte cX0_requireByte 3 none, .methodLink RX0 37 yX0_requireRow, .instanceMethod yX0_requireRow, .selects RX0 yX0_requireRow yX0_requireRow, .code yX0_requireRow cX0_requireRow 2 none, .fieldLink RX0 13 "RowFilters" "rowCount" "I", .methodLink RX0 23 yX0_requireWithin, .static yX0_requireWithin, .code yX0_requireWithin cX0_requireWithin 3 none, .classLink RX0 94 "java/lang/IllegalArgumentException", .initialized "java/lang/IllegalArgumentException"] ++ wsX00 ++ (vx_atS RX0 98 "java/lang/IllegalArgumentException" ["java/lang/RuntimeException", "java/lang/Exception"]).filter goodWord)
def wsX0_fill : List Cond := .code yX0_fill cX0_fill 6 none :: ([.fieldLink RX0 13 "RowFilters" "rowCount" "I", .fieldLink RX0 17 "RowFilters" "rowLength" "I", .fieldLink RX0 9 "RowFilters" "bytes" "[I"] ++ wsX00)
def wsX0_requireFilter : List Cond := .code yX0_requireFilter cX0_requireFilter 1 none :: ([.methodLink RX0 23 yX0_requireWithin, .static yX0_requireWithin, .initialized RX0, .code yX0_requireWithin cX0_requireWithin 3 none, .classLink RX0 94 "java/lang/IllegalArgumentException", .initialized "java/lang/IllegalArgumentException"] ++ (vx_atS RX0 98 "java/lang/IllegalArgumentException" ["java/lang/RuntimeException", "java/lang/Exception"]).filter goodWord)
def wsX0_byteOrZero : List Cond := .code yX0_byteOrZero cX0_byteOrZero 3 (some .int) :: ([.fieldLink RX0 9 "RowFilters" "bytes" "[I", .fieldLink RX0 17 "RowFilters" "rowLength" "I"] ++ wsX00)
def wsX0_nearest : List Cond := .code yX0_nearest cX0_nearest 7 (some .int) :: ([.methodLink RX0 88 Lib.Math.abs.name, .static Lib.Math.abs.name, .initialized "java/lang/Math", .code Lib.Math.abs.name Lib.Math.abs.code 1 (some .int)])
def wsX0_foretold : List Cond := .code yX0_foretold cX0_foretold 6 (some .int) :: ([.fieldLink RX0 20 "RowFilters" "pointSize" "I", .methodLink RX0 85 yX0_byteOrZero, .instanceMethod yX0_byteOrZero, .selects RX0 yX0_byteOrZero yX0_byteOrZero, .initialized RX0, .code yX0_byteOrZero cX0_byteOrZero 3 (some .int), .fieldLink RX0 9 "RowFilters" "bytes" "[I", .fieldLink RX0 17 "RowFilters" "rowLength" "I", .methodLink RX0 91 yX0_nearest, .static yX0_nearest, .code yX0_nearest cX0_nearest 7 (some .int), .methodLink RX0 88 Lib.Math.abs.name, .static Lib.Math.abs.name, .initialized "java/lang/Math", .code Lib.Math.abs.name Lib.Math.abs.code 1 (some .int)] ++ wsX00)
def wsX0_tellRow : List Cond := .code yX0_tellRow cX0_tellRow 5 none :: ([.fieldLink RX0 17 "RowFilters" "rowLength" "I", .fieldLink RX0 9 "RowFilters" "bytes" "[I", .methodLink RX0 79 yX0_foretold, .instanceMethod yX0_foretold, .selects RX0 yX0_foretold yX0_foretold, .initialized RX0, .code yX0_foretold cX0_foretold 6 (some .int), .fieldLink RX0 20 "RowFilters" "pointSize" "I", .methodLink RX0 85 yX0_byteOrZero, .instanceMethod yX0_byteOrZero, .selects RX0 yX0_byteOrZero yX0_byteOrZero, .code yX0_byteOrZero cX0_byteOrZero 3 (some .int), .methodLink RX0 91 yX0_nearest, .static yX0_nearest, .code yX0_nearest cX0_nearest 7 (some .int), .methodLink RX0 88 Lib.Math.abs.name, .static Lib.Math.abs.name, .initialized "java/lang/Math", .code Lib.Math.abs.name Lib.Math.abs.code 1 (some .int)] ++ wsX00)
def wsX0_filter_r1 : List Cond := [Cond.methodLink RX0 37 yX0_requireRow, Cond.instanceMethod yX0_requireRow, Cond.selects RX0 yX0_requireRow yX0_requireRow, Cond.initialized RX0, Cond.code yX0_requireRow cX0_requireRow 2 none, Cond.fieldLink RX0 13 "RowFilters" "rowCount" "I", Cond.methodLink RX0 23 yX0_requireWithin, Cond.static yX0_requireWithin, Cond.code yX0_requireWithin cX0_requireWithin 3 none, Cond.classLink RX0 94 "java/lang/IllegalArgumentException", Cond.initialized "java/lang/IllegalArgumentException", Cond.methodLink RX0 41 yX0_requireFilter, Cond.static yX0_requireFilter, Cond.code yX0_requireFilter cX0_requireFilter 1 none, Cond.methodLink RX0 44 yX0_tellRow, Cond.instanceMethod yX0_tellRow, Cond.selects RX0 yX0_tellRow yX0_tellRow, Cond.code yX0_tellRow cX0_tellRow 5 none, Cond.fieldLink RX0 17 "RowFilters" "rowLength" "I", Cond.fieldLink RX0 9 "RowFilters" "bytes" "[I", Cond.methodLink RX0 79 yX0_foretold, Cond.instanceMethod yX0_foretold, Cond.selects RX0 yX0_foretold yX0_foretold, Cond.code yX0_foretold cX0_foretold 6 (some .int)]
def wsX0_filter_r2 : List Cond := [Cond.fieldLink RX0 20 "RowFilters" "pointSize" "I", Cond.methodLink RX0 85 yX0_byteOrZero, Cond.instanceMethod yX0_byteOrZero, Cond.selects RX0 yX0_byteOrZero yX0_byteOrZero, Cond.code yX0_byteOrZero cX0_byteOrZero 3 (some .int), Cond.methodLink RX0 91 yX0_nearest, Cond.static yX0_nearest, Cond.code yX0_nearest cX0_nearest 7 (some .int), Cond.methodLink RX0 88 Lib.Math.abs.name, Cond.static Lib.Math.abs.name, Cond.initialized "java/lang/Math", Cond.code Lib.Math.abs.name Lib.Math.abs.code 1 (some .int)]
def wsX0_filter : List Cond := .code yX0_filter cX0_filter 3 none :: ((wsX0_filter_r1 ++ wsX0_filter_r2) ++ wsX00 ++ (vx_atS RX0 98 "java/lang/IllegalArgumentException" ["java/lang/RuntimeException", "java/lang/Exception"]).filter goodWord)
def wsX0_restoreRow : List Cond := .code yX0_restoreRow cX0_restoreRow 5 none :: ([.fieldLink RX0 17 "RowFilters" "rowLength" "I", .fieldLink RX0 9 "RowFilters" "bytes" "[I", .methodLink RX0 79 yX0_foretold, .instanceMethod yX0_foretold, .selects RX0 yX0_foretold yX0_foretold, .initialized RX0, .code yX0_foretold cX0_foretold 6 (some .int), .fieldLink RX0 20 "RowFilters" "pointSize" "I", .methodLink RX0 85 yX0_byteOrZero, .instanceMethod yX0_byteOrZero, .selects RX0 yX0_byteOrZero yX0_byteOrZero, .code yX0_byteOrZero cX0_byteOrZero 3 (some .int), .methodLink RX0 91 yX0_nearest, .static yX0_nearest, .code yX0_nearest cX0_nearest 7 (some .int), .methodLink RX0 88 Lib.Math.abs.name, .static Lib.Math.abs.name, .initialized "java/lang/Math", .code Lib.Math.abs.name Lib.Math.abs.code 1 (some .int)] ++ wsX00)
def wsX0_plain_r1 : List Cond := [Cond.methodLink RX0 37 yX0_requireRow, Cond.instanceMethod yX0_requireRow, Cond.selects RX0 yX0_requireRow yX0_requireRow, Cond.initialized RX0, Cond.code yX0_requireRow cX0_requireRow 2 none, Cond.fieldLink RX0 13 "RowFilters" "rowCount" "I", Cond.methodLink RX0 23 yX0_requireWithin, Cond.static yX0_requireWithin, Cond.code yX0_requireWithin cX0_requireWithin 3 none, Cond.classLink RX0 94 "java/lang/IllegalArgumentException", Cond.initialized "java/lang/IllegalArgumentException", Cond.methodLink RX0 41 yX0_requireFilter, Cond.static yX0_requireFilter, Cond.code yX0_requireFilter cX0_requireFilter 1 none, Cond.methodLink RX0 47 yX0_restoreRow, Cond.instanceMethod yX0_restoreRow, Cond.selects RX0 yX0_restoreRow yX0_restoreRow, Cond.code yX0_restoreRow cX0_restoreRow 5 none, Cond.fieldLink RX0 17 "RowFilters" "rowLength" "I", Cond.fieldLink RX0 9 "RowFilters" "bytes" "[I", Cond.methodLink RX0 79 yX0_foretold, Cond.instanceMethod yX0_foretold, Cond.selects RX0 yX0_foretold yX0_foretold, Cond.code yX0_foretold cX0_foretold 6 (some .int)]
def wsX0_plain_r2 : List Cond := [Cond.fieldLink RX0 20 "RowFilters" "pointSize" "I", Cond.methodLink RX0 85 yX0_byteOrZero, Cond.instanceMethod yX0_byteOrZero, Cond.selects RX0 yX0_byteOrZero yX0_byteOrZero, Cond.code yX0_byteOrZero cX0_byteOrZero 3 (some .int), Cond.methodLink RX0 91 yX0_nearest, Cond.static yX0_nearest, Cond.code yX0_nearest cX0_nearest 7 (some .int), Cond.methodLink RX0 88 Lib.Math.abs.name, Cond.static Lib.Math.abs.name, Cond.initialized "java/lang/Math", Cond.code Lib.Math.abs.name Lib.Math.abs.code 1 (some .int)]
def wsX0_plain : List Cond := .code yX0_plain cX0_plain 3 none :: ((wsX0_plain_r1 ++ wsX0_plain_r2) ++ wsX00 ++ (vx_atS RX0 98 "java/lang/IllegalArgumentException" ["java/lang/RuntimeException", "java/lang/Exception"]).filter goodWord)
def wsX0_sumTold : List Cond := .code yX0_sumTold cX0_sumTold 6 (some .int) :: ([.fieldLink RX0 17 "RowFilters" "rowLength" "I", .methodLink RX0 88 Lib.Math.abs.name, .static Lib.Math.abs.name, .initialized "java/lang/Math", .code Lib.Math.abs.name Lib.Math.abs.code 1 (some .int), .methodLink RX0 85 yX0_byteOrZero, .instanceMethod yX0_byteOrZero, .selects RX0 yX0_byteOrZero yX0_byteOrZero, .initialized RX0, .code yX0_byteOrZero cX0_byteOrZero 3 (some .int), .fieldLink RX0 9 "RowFilters" "bytes" "[I", .methodLink RX0 79 yX0_foretold, .instanceMethod yX0_foretold, .selects RX0 yX0_foretold yX0_foretold, .code yX0_foretold cX0_foretold 6 (some .int), .fieldLink RX0 20 "RowFilters" "pointSize" "I", .methodLink RX0 91 yX0_nearest, .static yX0_nearest, .code yX0_nearest cX0_nearest 7 (some .int)] ++ wsX00)
def wsX0_leastFilter : List Cond := .code yX0_leastFilter cX0_leastFilter 6 (some .int) :: ([.methodLink RX0 82 yX0_sumTold, .instanceMethod yX0_sumTold, .selects RX0 yX0_sumTold yX0_sumTold, .initialized RX0, .code yX0_sumTold cX0_sumTold 6 (some .int), .fieldLink RX0 17 "RowFilters" "rowLength" "I", .methodLink RX0 88 Lib.Math.abs.name, .static Lib.Math.abs.name, .initialized "java/lang/Math", .code Lib.Math.abs.name Lib.Math.abs.code 1 (some .int), .methodLink RX0 85 yX0_byteOrZero, .instanceMethod yX0_byteOrZero, .selects RX0 yX0_byteOrZero yX0_byteOrZero, .code yX0_byteOrZero cX0_byteOrZero 3 (some .int), .fieldLink RX0 9 "RowFilters" "bytes" "[I", .methodLink RX0 79 yX0_foretold, .instanceMethod yX0_foretold, .selects RX0 yX0_foretold yX0_foretold, .code yX0_foretold cX0_foretold 6 (some .int), .fieldLink RX0 20 "RowFilters" "pointSize" "I", .methodLink RX0 91 yX0_nearest, .static yX0_nearest, .code yX0_nearest cX0_nearest 7 (some .int)] ++ wsX00)
def wsX0_best_r1 : List Cond := [Cond.fieldLink RX0 13 "RowFilters" "rowCount" "I", Cond.methodLink RX0 50 yX0_leastFilter, Cond.instanceMethod yX0_leastFilter, Cond.selects RX0 yX0_leastFilter yX0_leastFilter, Cond.initialized RX0, Cond.code yX0_leastFilter cX0_leastFilter 6 (some .int), Cond.methodLink RX0 82 yX0_sumTold, Cond.instanceMethod yX0_sumTold, Cond.selects RX0 yX0_sumTold yX0_sumTold, Cond.code yX0_sumTold cX0_sumTold 6 (some .int), Cond.fieldLink RX0 17 "RowFilters" "rowLength" "I", Cond.methodLink RX0 88 Lib.Math.abs.name, Cond.static Lib.Math.abs.name, Cond.initialized "java/lang/Math", Cond.code Lib.Math.abs.name Lib.Math.abs.code 1 (some .int), Cond.methodLink RX0 85 yX0_byteOrZero, Cond.instanceMethod yX0_byteOrZero, Cond.selects RX0 yX0_byteOrZero yX0_byteOrZero, Cond.code yX0_byteOrZero cX0_byteOrZero 3 (some .int), Cond.fieldLink RX0 9 "RowFilters" "bytes" "[I", Cond.methodLink RX0 79 yX0_foretold, Cond.instanceMethod yX0_foretold, Cond.selects RX0 yX0_foretold yX0_foretold, Cond.code yX0_foretold cX0_foretold 6 (some .int)]
def wsX0_best_r2 : List Cond := [Cond.fieldLink RX0 20 "RowFilters" "pointSize" "I", Cond.methodLink RX0 91 yX0_nearest, Cond.static yX0_nearest, Cond.code yX0_nearest cX0_nearest 7 (some .int), Cond.methodLink RX0 44 yX0_tellRow, Cond.instanceMethod yX0_tellRow, Cond.selects RX0 yX0_tellRow yX0_tellRow, Cond.code yX0_tellRow cX0_tellRow 5 none]
def wsX0_best : List Cond := .code yX0_best cX0_best 5 (some .int) :: ((wsX0_best_r1 ++ wsX0_best_r2) ++ wsX00)
def wsX0_undo_r1 : List Cond := [Cond.constant RX0 54 (390624), Cond.fieldLink RX0 13 "RowFilters" "rowCount" "I", Cond.methodLink RX0 55 Lib.Math.min.name, Cond.static Lib.Math.min.name, Cond.initialized "java/lang/Math", Cond.code Lib.Math.min.name Lib.Math.min.code 2 (some .int), Cond.methodLink RX0 23 yX0_requireWithin, Cond.static yX0_requireWithin, Cond.initialized RX0, Cond.code yX0_requireWithin cX0_requireWithin 3 none, Cond.classLink RX0 94 "java/lang/IllegalArgumentException", Cond.initialized "java/lang/IllegalArgumentException", Cond.methodLink RX0 47 yX0_restoreRow, Cond.instanceMethod yX0_restoreRow, Cond.selects RX0 yX0_restoreRow yX0_restoreRow, Cond.code yX0_restoreRow cX0_restoreRow 5 none, Cond.fieldLink RX0 17 "RowFilters" "rowLength" "I", Cond.fieldLink RX0 9 "RowFilters" "bytes" "[I", Cond.methodLink RX0 79 yX0_foretold, Cond.instanceMethod yX0_foretold, Cond.selects RX0 yX0_foretold yX0_foretold, Cond.code yX0_foretold cX0_foretold 6 (some .int), Cond.fieldLink RX0 20 "RowFilters" "pointSize" "I", Cond.methodLink RX0 85 yX0_byteOrZero]
def wsX0_undo_r2 : List Cond := [Cond.instanceMethod yX0_byteOrZero, Cond.selects RX0 yX0_byteOrZero yX0_byteOrZero, Cond.code yX0_byteOrZero cX0_byteOrZero 3 (some .int), Cond.methodLink RX0 91 yX0_nearest, Cond.static yX0_nearest, Cond.code yX0_nearest cX0_nearest 7 (some .int), Cond.methodLink RX0 88 Lib.Math.abs.name, Cond.static Lib.Math.abs.name, Cond.code Lib.Math.abs.name Lib.Math.abs.code 1 (some .int)]
def wsX0_undo : List Cond := .code yX0_undo cX0_undo 5 none :: ((wsX0_undo_r1 ++ wsX0_undo_r2) ++ wsX00 ++ (vx_atS RX0 98 "java/lang/IllegalArgumentException" ["java/lang/RuntimeException", "java/lang/Exception"]).filter goodWord)
def wsX0_hash : List Cond := .code yX0_hash cX0_hash 4 (some .int) :: ([.fieldLink RX0 13 "RowFilters" "rowCount" "I", .fieldLink RX0 17 "RowFilters" "rowLength" "I", .fieldLink RX0 9 "RowFilters" "bytes" "[I"] ++ wsX00)
def wsX0_pointsAlong : List Cond := .code yX0_pointsAlong cX0_pointsAlong 3 (some .int) :: ([])
def wsX0_pass : List Cond := .code yX0_pass cX0_pass 7 (some .int) :: ([.constant RX0 61 (100000), .fieldLink RX0 62 "RowFilters" "PASS_FROM_X" "[I", .fieldLink RX0 65 "RowFilters" "PASS_STEP_X" "[I", .fieldLink RX0 72 "RowFilters" "PASS_FROM_Y" "[I", .fieldLink RX0 75 "RowFilters" "PASS_STEP_Y" "[I", .methodLink RX0 23 yX0_requireWithin, .static yX0_requireWithin, .initialized RX0, .code yX0_requireWithin cX0_requireWithin 3 none, .classLink RX0 94 "java/lang/IllegalArgumentException", .initialized "java/lang/IllegalArgumentException", .methodLink RX0 68 yX0_pointsAlong, .static yX0_pointsAlong, .code yX0_pointsAlong cX0_pointsAlong 3 (some .int)] ++ (vx_atS RX0 98 "java/lang/IllegalArgumentException" ["java/lang/RuntimeException", "java/lang/Exception"]).filter goodWord)
def wsX0_passOf : List Cond := .code yX0_passOf cX0_passOf 4 (some .int) :: ([.constant RX0 78 (99999), .fieldLink RX0 65 "RowFilters" "PASS_STEP_X" "[I", .fieldLink RX0 62 "RowFilters" "PASS_FROM_X" "[I", .fieldLink RX0 75 "RowFilters" "PASS_STEP_Y" "[I", .fieldLink RX0 72 "RowFilters" "PASS_FROM_Y" "[I", .methodLink RX0 23 yX0_requireWithin, .static yX0_requireWithin, .initialized RX0, .code yX0_requireWithin cX0_requireWithin 3 none, .classLink RX0 94 "java/lang/IllegalArgumentException", .initialized "java/lang/IllegalArgumentException"] ++ (vx_atS RX0 98 "java/lang/IllegalArgumentException" ["java/lang/RuntimeException", "java/lang/Exception"]).filter goodWord)
def wsJ9_abs_0f7a4 : List Cond := .code yJ9_abs_0f7a4 cJ9_abs_0f7a4 1 (some .int) :: ([])
def wsJ9_min_7cf53 : List Cond := .code yJ9_min_7cf53 cJ9_min_7cf53 2 (some .int) :: ([])
set_option maxRecDepth 20000 in
theorem ggX0_open_X0_requireWithin : GoodIn wsX0_open wsX0_requireWithin := goodIn_ca (goodIn_r _ [8, 9, 10] (by decide +kernel) (by decide +kernel)) (goodIn_sub (fun _ h => List.mem_cons_of_mem _ (List.mem_append_right _ h)) (by decide +kernel))
set_option maxRecDepth 20000 in
theorem gX0_open_X0_requireWithin : GoodIn wsX0_open (va_wsS RX0 23 yX0_requireWithin wsX0_requireWithin) := goodIn_app (goodIn_of _ (by decide +kernel)) ggX0_open_X0_requireWithin
set_option maxRecDepth 20000 in
theorem ggX0_open_J7_fill_53178 : GoodIn wsX0_open wsJ7_fill_53178 := goodIn_r _ [14] (by decide +kernel) (by decide +kernel)
set_option maxRecDepth 20000 in
theorem gX0_open_J7_fill_53178 : GoodIn wsX0_open (va_wsS RX0 27 yJ7_fill_53178 wsJ7_fill_53178) := goodIn_app (goodIn_of _ (by decide +kernel)) ggX0_open_J7_fill_53178
set_option maxRecDepth 20000 in
theorem ggX0_set_X0_requireByte : GoodIn wsX0_set wsX0_requireByte := goodIn_ca (goodIn_r _ [7, 1, 8, 9, 10, 6, 11, 12, 13, 14, 15, 16, 17, 18, 19, 20, 21] (by decide +kernel) (by decide +kernel)) (goodIn_sub (fun _ h => List.mem_cons_of_mem _ (List.mem_append_right _ h)) (by decide +kernel))
set_option maxRecDepth 20000 in
theorem gX0_set_X0_requireByte : GoodIn wsX0_set (wsV RX0 33 RX0 yX0_requireByte wsX0_requireByte) := goodIn_app (goodIn_of _ (by decide +kernel)) ggX0_set_X0_requireByte
set_option maxRecDepth 20000 in
theorem ggX0_set_X0_requireWithin : GoodIn wsX0_set wsX0_requireWithin := goodIn_ca (goodIn_r _ [15, 16, 17] (by decide +kernel) (by decide +kernel)) (goodIn_sub (fun _ h => List.mem_cons_of_mem _ (List.mem_append_right _ h)) (by decide +kernel))
set_option maxRecDepth 20000 in
theorem gX0_set_X0_requireWithin : GoodIn wsX0_set (va_wsS RX0 23 yX0_requireWithin wsX0_requireWithin) := goodIn_app (goodIn_of _ (by decide +kernel)) ggX0_set_X0_requireWithin
set_option maxRecDepth 20000 in
theorem ggX0_get_X0_requireByte : GoodIn wsX0_get wsX0_requireByte := goodIn_ca (goodIn_r _ [7, 2, 8, 9, 10, 6, 11, 12, 13, 14, 15, 16, 17, 18, 19, 20, 21] (by decide +kernel) (by decide +kernel)) (goodIn_sub (fun _ h => List.mem_cons_of_mem _ (List.mem_append_right _ h)) (by decide +kernel))
set_option maxRecDepth 20000 in
theorem gX0_get_X0_requireByte : GoodIn wsX0_get (wsV RX0 33 RX0 yX0_requireByte wsX0_requireByte) := goodIn_app (goodIn_of _ (by decide +kernel)) ggX0_get_X0_requireByte
set_option maxRecDepth 20000 in
theorem ggX0_filter_X0_requireRow : GoodIn wsX0_filter wsX0_requireRow := goodIn_ca (goodIn_r _ [5, 6, 7, 8, 4, 9, 10, 11, 37, 38, 39, 40] (by decide +kernel) (by decide +kernel)) (goodIn_sub (fun _ h => List.mem_cons_of_mem _ (List.mem_append_right _ h)) (by decide +kernel))
set_option maxRecDepth 20000 in
theorem gX0_filter_X0_requireRow : GoodIn wsX0_filter (wsV RX0 37 RX0 yX0_requireRow wsX0_requireRow) := goodIn_app (goodIn_of _ (by decide +kernel)) ggX0_filter_X0_requireRow
set_option maxRecDepth 20000 in
theorem ggX0_filter_X0_requireFilter : GoodIn wsX0_filter wsX0_requireFilter := goodIn_ca (goodIn_r _ [14, 7, 8, 4, 9, 10, 11] (by decide +kernel) (by decide +kernel)) (goodIn_sub (fun _ h => List.mem_cons_of_mem _ (List.mem_append_right _ h)) (by decide +kernel))
set_option maxRecDepth 20000 in
theorem gX0_filter_X0_requireFilter : GoodIn wsX0_filter (va_wsS RX0 41 yX0_requireFilter wsX0_requireFilter) := goodIn_app (goodIn_of _ (by decide +kernel)) ggX0_filter_X0_requireFilter
set_option maxRecDepth 20000 in
theorem ggX0_filter_X0_tellRow : GoodIn wsX0_filter wsX0_tellRow := goodIn_r _ [18, 19, 20, 21, 22, 23, 4, 24, 25, 26, 27, 28, 29, 30, 31, 32, 33, 34, 35, 36, 37, 38, 39, 40] (by decide +kernel) (by decide +kernel)
set_option maxRecDepth 20000 in
theorem gX0_filter_X0_tellRow : GoodIn wsX0_filter (wsV RX0 44 RX0 yX0_tellRow wsX0_tellRow) := goodIn_app (goodIn_of _ (by decide +kernel)) ggX0_filter_X0_tellRow
set_option maxRecDepth 20000 in
theorem ggX0_plain_X0_requireRow : GoodIn wsX0_plain wsX0_requireRow := goodIn_ca (goodIn_r _ [5, 6, 7, 8, 4, 9, 10, 11, 37, 38, 39, 40] (by decide +kernel) (by decide +kernel)) (goodIn_sub (fun _ h => List.mem_cons_of_mem _ (List.mem_append_right _ h)) (by decide +kernel))
set_option maxRecDepth 20000 in
theorem gX0_plain_X0_requireRow : GoodIn wsX0_plain (wsV RX0 37 RX0 yX0_requireRow wsX0_requireRow) := goodIn_app (goodIn_of _ (by decide +kernel)) ggX0_plain_X0_requireRow
set_option maxRecDepth 20000 in
theorem ggX0_plain_X0_requireFilter : GoodIn wsX0_plain wsX0_requireFilter := goodIn_ca (goodIn_r _ [14, 7, 8, 4, 9, 10, 11] (by decide +kernel) (by decide +kernel)) (goodIn_sub (fun _ h => List.mem_cons_of_mem _ (List.mem_append_right _ h)) (by decide +kernel))
set_option maxRecDepth 20000 in
theorem gX0_plain_X0_requireFilter : GoodIn wsX0_plain (va_wsS RX0 41 yX0_requireFilter wsX0_requireFilter) := goodIn_app (goodIn_of _ (by decide +kernel)) ggX0_plain_X0_requireFilter
set_option maxRecDepth 20000 in
theorem ggX0_plain_X0_restoreRow : GoodIn wsX0_plain wsX0_restoreRow := goodIn_r _ [18, 19, 20, 21, 22, 23, 4, 24, 25, 26, 27, 28, 29, 30, 31, 32, 33, 34, 35, 36, 37, 38, 39, 40] (by decide +kernel) (by decide +kernel)
set_option maxRecDepth 20000 in
theorem gX0_plain_X0_restoreRow : GoodIn wsX0_plain (wsV RX0 47 RX0 yX0_restoreRow wsX0_restoreRow) := goodIn_app (goodIn_of _ (by decide +kernel)) ggX0_plain_X0_restoreRow
set_option maxRecDepth 20000 in
theorem ggX0_best_X0_leastFilter : GoodIn wsX0_best wsX0_leastFilter := goodIn_r _ [6, 7, 8, 9, 5, 10, 11, 12, 13, 14, 15, 16, 17, 18, 19, 20, 21, 22, 23, 24, 25, 26, 27, 28, 33, 34, 35, 36] (by decide +kernel) (by decide +kernel)
set_option maxRecDepth 20000 in
theorem gX0_best_X0_leastFilter : GoodIn wsX0_best (wsV RX0 50 RX0 yX0_leastFilter wsX0_leastFilter) := goodIn_app (goodIn_of _ (by decide +kernel)) ggX0_best_X0_leastFilter
set_option maxRecDepth 20000 in
theorem ggX0_best_X0_tellRow : GoodIn wsX0_best wsX0_tellRow := goodIn_r _ [32, 11, 20, 21, 22, 23, 5, 24, 25, 16, 17, 18, 19, 26, 27, 28, 12, 13, 14, 15, 33, 34, 35, 36] (by decide +kernel) (by decide +kernel)
set_option maxRecDepth 20000 in
theorem gX0_best_X0_tellRow : GoodIn wsX0_best (wsV RX0 44 RX0 yX0_tellRow wsX0_tellRow) := goodIn_app (goodIn_of _ (by decide +kernel)) ggX0_best_X0_tellRow
set_option maxRecDepth 20000 in
theorem ggX0_undo_X0_requireWithin : GoodIn wsX0_undo wsX0_requireWithin := goodIn_ca (goodIn_r _ [10, 11, 12] (by decide +kernel) (by decide +kernel)) (goodIn_sub (fun _ h => List.mem_cons_of_mem _ (List.mem_append_right _ h)) (by decide +kernel))
set_option maxRecDepth 20000 in
theorem gX0_undo_X0_requireWithin : GoodIn wsX0_undo (va_wsS RX0 23 yX0_requireWithin wsX0_requireWithin) := goodIn_app (goodIn_of _ (by decide +kernel)) ggX0_undo_X0_requireWithin
set_option maxRecDepth 20000 in
theorem ggX0_undo_X0_restoreRow : GoodIn wsX0_undo wsX0_restoreRow := goodIn_r _ [16, 17, 18, 19, 20, 21, 9, 22, 23, 24, 25, 26, 27, 28, 29, 30, 31, 32, 5, 33, 34, 35, 36, 37] (by decide +kernel) (by decide +kernel)
set_option maxRecDepth 20000 in
theorem gX0_undo_X0_restoreRow : GoodIn wsX0_undo (wsV RX0 47 RX0 yX0_restoreRow wsX0_restoreRow) := goodIn_app (goodIn_of _ (by decide +kernel)) ggX0_undo_X0_restoreRow
set_option maxRecDepth 20000 in
theorem ggX0_pass_X0_requireWithin : GoodIn wsX0_pass wsX0_requireWithin := goodIn_ca (goodIn_r _ [9, 10, 11] (by decide +kernel) (by decide +kernel)) (goodIn_sub (fun _ h => List.mem_cons_of_mem _ (List.mem_append_right _ h)) (by decide +kernel))
set_option maxRecDepth 20000 in
theorem gX0_pass_X0_requireWithin : GoodIn wsX0_pass (va_wsS RX0 23 yX0_requireWithin wsX0_requireWithin) := goodIn_app (goodIn_of _ (by decide +kernel)) ggX0_pass_X0_requireWithin
set_option maxRecDepth 20000 in
theorem ggX0_pass_X0_pointsAlong : GoodIn wsX0_pass wsX0_pointsAlong := goodIn_r _ [14] (by decide +kernel) (by decide +kernel)
set_option maxRecDepth 20000 in
theorem gX0_pass_X0_pointsAlong : GoodIn wsX0_pass (va_wsS RX0 68 yX0_pointsAlong wsX0_pointsAlong) := goodIn_app (goodIn_of _ (by decide +kernel)) ggX0_pass_X0_pointsAlong
set_option maxRecDepth 20000 in
theorem ggX0_passOf_X0_requireWithin : GoodIn wsX0_passOf wsX0_requireWithin := goodIn_ca (goodIn_r _ [9, 10, 11] (by decide +kernel) (by decide +kernel)) (goodIn_sub (fun _ h => List.mem_cons_of_mem _ (List.mem_append_right _ h)) (by decide +kernel))
set_option maxRecDepth 20000 in
theorem gX0_passOf_X0_requireWithin : GoodIn wsX0_passOf (va_wsS RX0 23 yX0_requireWithin wsX0_requireWithin) := goodIn_app (goodIn_of _ (by decide +kernel)) ggX0_passOf_X0_requireWithin
set_option maxRecDepth 20000 in
theorem ggX0_tellRow_X0_foretold : GoodIn wsX0_tellRow wsX0_foretold := goodIn_r _ [7, 8, 9, 10, 11, 6, 12, 2, 1, 13, 14, 15, 16, 17, 18, 19, 20, 21, 22, 23] (by decide +kernel) (by decide +kernel)
set_option maxRecDepth 20000 in
theorem gX0_tellRow_X0_foretold : GoodIn wsX0_tellRow (wsV RX0 79 RX0 yX0_foretold wsX0_foretold) := goodIn_app (goodIn_of _ (by decide +kernel)) ggX0_tellRow_X0_foretold
set_option maxRecDepth 20000 in
theorem ggX0_restoreRow_X0_foretold : GoodIn wsX0_restoreRow wsX0_foretold := goodIn_r _ [7, 8, 9, 10, 11, 6, 12, 2, 1, 13, 14, 15, 16, 17, 18, 19, 20, 21, 22, 23] (by decide +kernel) (by decide +kernel)
set_option maxRecDepth 20000 in
theorem gX0_restoreRow_X0_foretold : GoodIn wsX0_restoreRow (wsV RX0 79 RX0 yX0_foretold wsX0_foretold) := goodIn_app (goodIn_of _ (by decide +kernel)) ggX0_restoreRow_X0_foretold
set_option maxRecDepth 20000 in
theorem ggX0_leastFilter_X0_sumTold : GoodIn wsX0_leastFilter wsX0_sumTold := goodIn_r _ [5, 6, 7, 8, 9, 10, 11, 12, 13, 4, 14, 15, 16, 17, 18, 19, 20, 21, 22, 23, 24, 25, 26, 27] (by decide +kernel) (by decide +kernel)
set_option maxRecDepth 20000 in
theorem gX0_leastFilter_X0_sumTold : GoodIn wsX0_leastFilter (wsV RX0 82 RX0 yX0_sumTold wsX0_sumTold) := goodIn_app (goodIn_of _ (by decide +kernel)) ggX0_leastFilter_X0_sumTold
set_option maxRecDepth 20000 in
theorem ggX0_sumTold_X0_byteOrZero : GoodIn wsX0_sumTold wsX0_byteOrZero := goodIn_r _ [10, 11, 1, 20, 21, 22, 23] (by decide +kernel) (by decide +kernel)
set_option maxRecDepth 20000 in
theorem gX0_sumTold_X0_byteOrZero : GoodIn wsX0_sumTold (wsV RX0 85 RX0 yX0_byteOrZero wsX0_byteOrZero) := goodIn_app (goodIn_of _ (by decide +kernel)) ggX0_sumTold_X0_byteOrZero
set_option maxRecDepth 20000 in
theorem ggX0_sumTold_X0_foretold : GoodIn wsX0_sumTold wsX0_foretold := goodIn_r _ [15, 16, 6, 7, 8, 9, 10, 11, 1, 17, 18, 19, 2, 3, 4, 5, 20, 21, 22, 23] (by decide +kernel) (by decide +kernel)
set_option maxRecDepth 20000 in
theorem gX0_sumTold_X0_foretold : GoodIn wsX0_sumTold (wsV RX0 79 RX0 yX0_foretold wsX0_foretold) := goodIn_app (goodIn_of _ (by decide +kernel)) ggX0_sumTold_X0_foretold
set_option maxRecDepth 20000 in
theorem ggX0_foretold_X0_byteOrZero : GoodIn wsX0_foretold wsX0_byteOrZero := goodIn_r _ [6, 7, 8, 16, 17, 18, 19] (by decide +kernel) (by decide +kernel)
set_option maxRecDepth 20000 in
theorem gX0_foretold_X0_byteOrZero : GoodIn wsX0_foretold (wsV RX0 85 RX0 yX0_byteOrZero wsX0_byteOrZero) := goodIn_app (goodIn_of _ (by decide +kernel)) ggX0_foretold_X0_byteOrZero
set_option maxRecDepth 20000 in
theorem ggX0_foretold_X0_nearest : GoodIn wsX0_foretold wsX0_nearest := goodIn_r _ [11, 12, 13, 14, 15] (by decide +kernel) (by decide +kernel)
set_option maxRecDepth 20000 in
theorem gX0_foretold_X0_nearest : GoodIn wsX0_foretold (va_wsS RX0 91 yX0_nearest wsX0_nearest) := goodIn_app (goodIn_of _ (by decide +kernel)) ggX0_foretold_X0_nearest
set_option maxRecDepth 20000 in
theorem ggX0_requireByte_X0_requireRow : GoodIn wsX0_requireByte wsX0_requireRow := goodIn_ca (goodIn_r _ [6, 7, 8, 9, 5, 10, 11, 12, 13, 14, 15, 16] (by decide +kernel) (by decide +kernel)) (goodIn_sub (fun _ h => List.mem_cons_of_mem _ (List.mem_append_right _ h)) (by decide +kernel))
set_option maxRecDepth 20000 in
theorem gX0_requireByte_X0_requireRow : GoodIn wsX0_requireByte (wsV RX0 37 RX0 yX0_requireRow wsX0_requireRow) := goodIn_app (goodIn_of _ (by decide +kernel)) ggX0_requireByte_X0_requireRow
set_option maxRecDepth 20000 in
theorem ggX0_requireByte_X0_requireWithin : GoodIn wsX0_requireByte wsX0_requireWithin := goodIn_ca (goodIn_r _ [10, 11, 12] (by decide +kernel) (by decide +kernel)) (goodIn_sub (fun _ h => List.mem_cons_of_mem _ (List.mem_append_right _ h)) (by decide +kernel))
set_option maxRecDepth 20000 in
theorem gX0_requireByte_X0_requireWithin : GoodIn wsX0_requireByte (va_wsS RX0 23 yX0_requireWithin wsX0_requireWithin) := goodIn_app (goodIn_of _ (by decide +kernel)) ggX0_requireByte_X0_requireWithin
set_option maxRecDepth 20000 in
theorem ggX0_requireRow_X0_requireWithin : GoodIn wsX0_requireRow wsX0_requireWithin := goodIn_ca (goodIn_r _ [5, 6, 7] (by decide +kernel) (by decide +kernel)) (goodIn_sub (fun _ h => List.mem_cons_of_mem _ (List.mem_append_right _ h)) (by decide +kernel))
set_option maxRecDepth 20000 in
theorem gX0_requireRow_X0_requireWithin : GoodIn wsX0_requireRow (va_wsS RX0 23 yX0_requireWithin wsX0_requireWithin) := goodIn_app (goodIn_of _ (by decide +kernel)) ggX0_requireRow_X0_requireWithin
set_option maxRecDepth 20000 in
theorem ggX0_requireFilter_X0_requireWithin : GoodIn wsX0_requireFilter wsX0_requireWithin := goodIn_ca (goodIn_r _ [4, 5, 6] (by decide +kernel) (by decide +kernel)) (goodIn_sub (fun _ h => List.mem_cons_of_mem _ (List.mem_append_right _ h)) (by decide +kernel))
set_option maxRecDepth 20000 in
theorem gX0_requireFilter_X0_requireWithin : GoodIn wsX0_requireFilter (va_wsS RX0 23 yX0_requireWithin wsX0_requireWithin) := goodIn_app (goodIn_of _ (by decide +kernel)) ggX0_requireFilter_X0_requireWithin
end
section
theorem dX0_init_0 : decode cX0_init 0 = .ok (.aload_n 0, 1) := by decide +kernel
theorem dX0_init_1 : decode cX0_init 1 = .ok (.invokespecial 1, 3) := by decide +kernel
theorem dX0_init_4 : decode cX0_init 4 = .ok (.aload_n 0, 1) := by decide +kernel
theorem dX0_init_5 : decode cX0_init 5 = .ok (.sipush 4096, 3) := by decide +kernel
theorem dX0_init_8 : decode cX0_init 8 = .ok (.newarray .int, 2) := by decide +kernel
theorem dX0_init_10 : decode cX0_init 10 = .ok (.putfield 9, 3) := by decide +kernel
theorem dX0_init_13 : decode cX0_init 13 = .ok (.aload_n 0, 1) := by decide +kernel
theorem dX0_init_14 : decode cX0_init 14 = .ok (.iconst 1, 1) := by decide +kernel
theorem dX0_init_15 : decode cX0_init 15 = .ok (.putfield 13, 3) := by decide +kernel
theorem dX0_init_18 : decode cX0_init 18 = .ok (.aload_n 0, 1) := by decide +kernel
theorem dX0_init_19 : decode cX0_init 19 = .ok (.iconst 1, 1) := by decide +kernel
theorem dX0_init_20 : decode cX0_init 20 = .ok (.putfield 17, 3) := by decide +kernel
theorem dX0_init_23 : decode cX0_init 23 = .ok (.aload_n 0, 1) := by decide +kernel
theorem dX0_init_24 : decode cX0_init 24 = .ok (.iconst 1, 1) := by decide +kernel
theorem dX0_init_25 : decode cX0_init 25 = .ok (.putfield 20, 3) := by decide +kernel
theorem dX0_init_28 : decode cX0_init 28 = .ok (.return_, 1) := by decide +kernel
theorem dX0_open_0 : decode cX0_open 0 = .ok (.iload_n 1, 1) := by decide +kernel
theorem dX0_open_1 : decode cX0_open 1 = .ok (.iconst 1, 1) := by decide +kernel
theorem dX0_open_2 : decode cX0_open 2 = .ok (.sipush 4096, 3) := by decide +kernel
theorem dX0_open_5 : decode cX0_open 5 = .ok (.invokestatic 23, 3) := by decide +kernel
theorem dX0_open_8 : decode cX0_open 8 = .ok (.iload_n 2, 1) := by decide +kernel
theorem dX0_open_9 : decode cX0_open 9 = .ok (.iconst 1, 1) := by decide +kernel
theorem dX0_open_10 : decode cX0_open 10 = .ok (.sipush 4096, 3) := by decide +kernel
theorem dX0_open_13 : decode cX0_open 13 = .ok (.invokestatic 23, 3) := by decide +kernel
theorem dX0_open_16 : decode cX0_open 16 = .ok (.iload_n 1, 1) := by decide +kernel
theorem dX0_open_17 : decode cX0_open 17 = .ok (.iload_n 2, 1) := by decide +kernel
theorem dX0_open_18 : decode cX0_open 18 = .ok (.imul, 1) := by decide +kernel
theorem dX0_open_19 : decode cX0_open 19 = .ok (.iconst 1, 1) := by decide +kernel
theorem dX0_open_20 : decode cX0_open 20 = .ok (.sipush 4096, 3) := by decide +kernel
theorem dX0_open_23 : decode cX0_open 23 = .ok (.invokestatic 23, 3) := by decide +kernel
theorem dX0_open_26 : decode cX0_open 26 = .ok (.iload_n 3, 1) := by decide +kernel
theorem dX0_open_27 : decode cX0_open 27 = .ok (.iconst 1, 1) := by decide +kernel
theorem dX0_open_28 : decode cX0_open 28 = .ok (.bipush 8, 2) := by decide +kernel
theorem dX0_open_30 : decode cX0_open 30 = .ok (.invokestatic 23, 3) := by decide +kernel
theorem dX0_open_33 : decode cX0_open 33 = .ok (.aload_n 0, 1) := by decide +kernel
theorem dX0_open_34 : decode cX0_open 34 = .ok (.iload_n 1, 1) := by decide +kernel
theorem dX0_open_35 : decode cX0_open 35 = .ok (.putfield 13, 3) := by decide +kernel
theorem dX0_open_38 : decode cX0_open 38 = .ok (.aload_n 0, 1) := by decide +kernel
theorem dX0_open_39 : decode cX0_open 39 = .ok (.iload_n 2, 1) := by decide +kernel
theorem dX0_open_40 : decode cX0_open 40 = .ok (.putfield 17, 3) := by decide +kernel
theorem dX0_open_43 : decode cX0_open 43 = .ok (.aload_n 0, 1) := by decide +kernel
theorem dX0_open_44 : decode cX0_open 44 = .ok (.iload_n 3, 1) := by decide +kernel
theorem dX0_open_45 : decode cX0_open 45 = .ok (.putfield 20, 3) := by decide +kernel
theorem dX0_open_48 : decode cX0_open 48 = .ok (.aload_n 0, 1) := by decide +kernel
theorem dX0_open_49 : decode cX0_open 49 = .ok (.getfield 9, 3) := by decide +kernel
theorem dX0_open_52 : decode cX0_open 52 = .ok (.iconst 0, 1) := by decide +kernel
theorem dX0_open_53 : decode cX0_open 53 = .ok (.invokestatic 27, 3) := by decide +kernel
theorem dX0_open_56 : decode cX0_open 56 = .ok (.return_, 1) := by decide +kernel
theorem dX0_set_0 : decode cX0_set 0 = .ok (.aload_n 0, 1) := by decide +kernel
theorem dX0_set_1 : decode cX0_set 1 = .ok (.iload_n 1, 1) := by decide +kernel
theorem dX0_set_2 : decode cX0_set 2 = .ok (.iload_n 2, 1) := by decide +kernel
theorem dX0_set_3 : decode cX0_set 3 = .ok (.invokevirtual 33, 3) := by decide +kernel
theorem dX0_set_6 : decode cX0_set 6 = .ok (.iload_n 3, 1) := by decide +kernel
theorem dX0_set_7 : decode cX0_set 7 = .ok (.iconst 0, 1) := by decide +kernel
theorem dX0_set_8 : decode cX0_set 8 = .ok (.sipush 255, 3) := by decide +kernel
theorem dX0_set_11 : decode cX0_set 11 = .ok (.invokestatic 23, 3) := by decide +kernel
theorem dX0_set_14 : decode cX0_set 14 = .ok (.iload_n 1, 1) := by decide +kernel
theorem dX0_set_15 : decode cX0_set 15 = .ok (.aload_n 0, 1) := by decide +kernel
theorem dX0_set_16 : decode cX0_set 16 = .ok (.getfield 17, 3) := by decide +kernel
theorem dX0_set_19 : decode cX0_set 19 = .ok (.imul, 1) := by decide +kernel
theorem dX0_set_20 : decode cX0_set 20 = .ok (.iload_n 2, 1) := by decide +kernel
theorem dX0_set_21 : decode cX0_set 21 = .ok (.iadd, 1) := by decide +kernel
theorem dX0_set_22 : decode cX0_set 22 = .ok (.istore 4, 2) := by decide +kernel
theorem dX0_set_24 : decode cX0_set 24 = .ok (.aload_n 0, 1) := by decide +kernel
theorem dX0_set_25 : decode cX0_set 25 = .ok (.getfield 9, 3) := by decide +kernel
theorem dX0_set_28 : decode cX0_set 28 = .ok (.iload 4, 2) := by decide +kernel
theorem dX0_set_30 : decode cX0_set 30 = .ok (.iaload, 1) := by decide +kernel
theorem dX0_set_31 : decode cX0_set 31 = .ok (.istore 5, 2) := by decide +kernel
theorem dX0_set_33 : decode cX0_set 33 = .ok (.aload_n 0, 1) := by decide +kernel
theorem dX0_set_34 : decode cX0_set 34 = .ok (.getfield 9, 3) := by decide +kernel
theorem dX0_set_37 : decode cX0_set 37 = .ok (.iload 4, 2) := by decide +kernel
theorem dX0_set_39 : decode cX0_set 39 = .ok (.iload_n 3, 1) := by decide +kernel
theorem dX0_set_40 : decode cX0_set 40 = .ok (.iastore, 1) := by decide +kernel
theorem dX0_set_41 : decode cX0_set 41 = .ok (.iload 5, 2) := by decide +kernel
theorem dX0_set_43 : decode cX0_set 43 = .ok (.ireturn, 1) := by decide +kernel
theorem dX0_get_0 : decode cX0_get 0 = .ok (.aload_n 0, 1) := by decide +kernel
theorem dX0_get_1 : decode cX0_get 1 = .ok (.iload_n 1, 1) := by decide +kernel
theorem dX0_get_2 : decode cX0_get 2 = .ok (.iload_n 2, 1) := by decide +kernel
theorem dX0_get_3 : decode cX0_get 3 = .ok (.invokevirtual 33, 3) := by decide +kernel
theorem dX0_get_6 : decode cX0_get 6 = .ok (.aload_n 0, 1) := by decide +kernel
theorem dX0_get_7 : decode cX0_get 7 = .ok (.getfield 9, 3) := by decide +kernel
theorem dX0_get_10 : decode cX0_get 10 = .ok (.iload_n 1, 1) := by decide +kernel
theorem dX0_get_11 : decode cX0_get 11 = .ok (.aload_n 0, 1) := by decide +kernel
theorem dX0_get_12 : decode cX0_get 12 = .ok (.getfield 17, 3) := by decide +kernel
theorem dX0_get_15 : decode cX0_get 15 = .ok (.imul, 1) := by decide +kernel
theorem dX0_get_16 : decode cX0_get 16 = .ok (.iload_n 2, 1) := by decide +kernel
theorem dX0_get_17 : decode cX0_get 17 = .ok (.iadd, 1) := by decide +kernel
theorem dX0_get_18 : decode cX0_get 18 = .ok (.iaload, 1) := by decide +kernel
theorem dX0_get_19 : decode cX0_get 19 = .ok (.ireturn, 1) := by decide +kernel
theorem dX0_fill_0 : decode cX0_fill 0 = .ok (.aload_n 0, 1) := by decide +kernel
theorem dX0_fill_1 : decode cX0_fill 1 = .ok (.getfield 13, 3) := by decide +kernel
theorem dX0_fill_4 : decode cX0_fill 4 = .ok (.aload_n 0, 1) := by decide +kernel
theorem dX0_fill_5 : decode cX0_fill 5 = .ok (.getfield 17, 3) := by decide +kernel
theorem dX0_fill_8 : decode cX0_fill 8 = .ok (.imul, 1) := by decide +kernel
theorem dX0_fill_9 : decode cX0_fill 9 = .ok (.istore 4, 2) := by decide +kernel
theorem dX0_fill_11 : decode cX0_fill 11 = .ok (.iconst 0, 1) := by decide +kernel
theorem dX0_fill_12 : decode cX0_fill 12 = .ok (.istore 5, 2) := by decide +kernel
theorem dX0_fill_14 : decode cX0_fill 14 = .ok (.iload 5, 2) := by decide +kernel
theorem dX0_fill_16 : decode cX0_fill 16 = .ok (.iload 4, 2) := by decide +kernel
theorem dX0_fill_18 : decode cX0_fill 18 = .ok (.if_icmp .ge 33, 3) := by decide +kernel
theorem dX0_fill_21 : decode cX0_fill 21 = .ok (.aload_n 0, 1) := by decide +kernel
theorem dX0_fill_22 : decode cX0_fill 22 = .ok (.getfield 9, 3) := by decide +kernel
theorem dX0_fill_25 : decode cX0_fill 25 = .ok (.iload 5, 2) := by decide +kernel
theorem dX0_fill_27 : decode cX0_fill 27 = .ok (.iload_n 1, 1) := by decide +kernel
theorem dX0_fill_28 : decode cX0_fill 28 = .ok (.iload 5, 2) := by decide +kernel
theorem dX0_fill_30 : decode cX0_fill 30 = .ok (.imul, 1) := by decide +kernel
theorem dX0_fill_31 : decode cX0_fill 31 = .ok (.iload 5, 2) := by decide +kernel
theorem dX0_fill_33 : decode cX0_fill 33 = .ok (.imul, 1) := by decide +kernel
theorem dX0_fill_34 : decode cX0_fill 34 = .ok (.iload_n 2, 1) := by decide +kernel
theorem dX0_fill_35 : decode cX0_fill 35 = .ok (.iload 5, 2) := by decide +kernel
theorem dX0_fill_37 : decode cX0_fill 37 = .ok (.imul, 1) := by decide +kernel
theorem dX0_fill_38 : decode cX0_fill 38 = .ok (.iadd, 1) := by decide +kernel
theorem dX0_fill_39 : decode cX0_fill 39 = .ok (.iload_n 3, 1) := by decide +kernel
theorem dX0_fill_40 : decode cX0_fill 40 = .ok (.iadd, 1) := by decide +kernel
theorem dX0_fill_41 : decode cX0_fill 41 = .ok (.bipush 24, 2) := by decide +kernel
theorem dX0_fill_43 : decode cX0_fill 43 = .ok (.iushr, 1) := by decide +kernel
theorem dX0_fill_44 : decode cX0_fill 44 = .ok (.iastore, 1) := by decide +kernel
theorem dX0_fill_45 : decode cX0_fill 45 = .ok (.iinc 5 1, 3) := by decide +kernel
theorem dX0_fill_48 : decode cX0_fill 48 = .ok (.goto (-34), 3) := by decide +kernel
theorem dX0_fill_51 : decode cX0_fill 51 = .ok (.return_, 1) := by decide +kernel
theorem dX0_filter_0 : decode cX0_filter 0 = .ok (.aload_n 0, 1) := by decide +kernel
theorem dX0_filter_1 : decode cX0_filter 1 = .ok (.iload_n 1, 1) := by decide +kernel
theorem dX0_filter_2 : decode cX0_filter 2 = .ok (.invokevirtual 37, 3) := by decide +kernel
theorem dX0_filter_5 : decode cX0_filter 5 = .ok (.iload_n 2, 1) := by decide +kernel
theorem dX0_filter_6 : decode cX0_filter 6 = .ok (.invokestatic 41, 3) := by decide +kernel
theorem dX0_filter_9 : decode cX0_filter 9 = .ok (.aload_n 0, 1) := by decide +kernel
theorem dX0_filter_10 : decode cX0_filter 10 = .ok (.iload_n 1, 1) := by decide +kernel
theorem dX0_filter_11 : decode cX0_filter 11 = .ok (.iload_n 2, 1) := by decide +kernel
theorem dX0_filter_12 : decode cX0_filter 12 = .ok (.invokevirtual 44, 3) := by decide +kernel
theorem dX0_filter_15 : decode cX0_filter 15 = .ok (.return_, 1) := by decide +kernel
theorem dX0_plain_0 : decode cX0_plain 0 = .ok (.aload_n 0, 1) := by decide +kernel
theorem dX0_plain_1 : decode cX0_plain 1 = .ok (.iload_n 1, 1) := by decide +kernel
theorem dX0_plain_2 : decode cX0_plain 2 = .ok (.invokevirtual 37, 3) := by decide +kernel
theorem dX0_plain_5 : decode cX0_plain 5 = .ok (.iload_n 2, 1) := by decide +kernel
theorem dX0_plain_6 : decode cX0_plain 6 = .ok (.invokestatic 41, 3) := by decide +kernel
theorem dX0_plain_9 : decode cX0_plain 9 = .ok (.aload_n 0, 1) := by decide +kernel
theorem dX0_plain_10 : decode cX0_plain 10 = .ok (.iload_n 1, 1) := by decide +kernel
theorem dX0_plain_11 : decode cX0_plain 11 = .ok (.iload_n 2, 1) := by decide +kernel
theorem dX0_plain_12 : decode cX0_plain 12 = .ok (.invokevirtual 47, 3) := by decide +kernel
theorem dX0_plain_15 : decode cX0_plain 15 = .ok (.return_, 1) := by decide +kernel
theorem dX0_best_0 : decode cX0_best 0 = .ok (.iconst 0, 1) := by decide +kernel
theorem dX0_best_1 : decode cX0_best 1 = .ok (.istore_n 1, 1) := by decide +kernel
theorem dX0_best_2 : decode cX0_best 2 = .ok (.iconst 1, 1) := by decide +kernel
theorem dX0_best_3 : decode cX0_best 3 = .ok (.istore_n 2, 1) := by decide +kernel
theorem dX0_best_4 : decode cX0_best 4 = .ok (.aload_n 0, 1) := by decide +kernel
theorem dX0_best_5 : decode cX0_best 5 = .ok (.getfield 13, 3) := by decide +kernel
theorem dX0_best_8 : decode cX0_best 8 = .ok (.iconst 1, 1) := by decide +kernel
theorem dX0_best_9 : decode cX0_best 9 = .ok (.isub, 1) := by decide +kernel
theorem dX0_best_10 : decode cX0_best 10 = .ok (.istore_n 3, 1) := by decide +kernel
theorem dX0_best_11 : decode cX0_best 11 = .ok (.iload_n 3, 1) := by decide +kernel
theorem dX0_best_12 : decode cX0_best 12 = .ok (.ifCond .lt 34, 3) := by decide +kernel
theorem dX0_best_15 : decode cX0_best 15 = .ok (.aload_n 0, 1) := by decide +kernel
theorem dX0_best_16 : decode cX0_best 16 = .ok (.iload_n 3, 1) := by decide +kernel
theorem dX0_best_17 : decode cX0_best 17 = .ok (.invokevirtual 50, 3) := by decide +kernel
theorem dX0_best_20 : decode cX0_best 20 = .ok (.istore 4, 2) := by decide +kernel
theorem dX0_best_22 : decode cX0_best 22 = .ok (.aload_n 0, 1) := by decide +kernel
theorem dX0_best_23 : decode cX0_best 23 = .ok (.iload_n 3, 1) := by decide +kernel
theorem dX0_best_24 : decode cX0_best 24 = .ok (.iload 4, 2) := by decide +kernel
theorem dX0_best_26 : decode cX0_best 26 = .ok (.invokevirtual 44, 3) := by decide +kernel
theorem dX0_best_29 : decode cX0_best 29 = .ok (.iload_n 1, 1) := by decide +kernel
theorem dX0_best_30 : decode cX0_best 30 = .ok (.iload 4, 2) := by decide +kernel
theorem dX0_best_32 : decode cX0_best 32 = .ok (.iload_n 2, 1) := by decide +kernel
theorem dX0_best_33 : decode cX0_best 33 = .ok (.imul, 1) := by decide +kernel
theorem dX0_best_34 : decode cX0_best 34 = .ok (.iadd, 1) := by decide +kernel
theorem dX0_best_35 : decode cX0_best 35 = .ok (.istore_n 1, 1) := by decide +kernel
theorem dX0_best_36 : decode cX0_best 36 = .ok (.iload_n 2, 1) := by decide +kernel
theorem dX0_best_37 : decode cX0_best 37 = .ok (.iconst 5, 1) := by decide +kernel
theorem dX0_best_38 : decode cX0_best 38 = .ok (.imul, 1) := by decide +kernel
theorem dX0_best_39 : decode cX0_best 39 = .ok (.istore_n 2, 1) := by decide +kernel
theorem dX0_best_40 : decode cX0_best 40 = .ok (.iinc 3 (-1), 3) := by decide +kernel
theorem dX0_best_43 : decode cX0_best 43 = .ok (.goto (-32), 3) := by decide +kernel
theorem dX0_best_46 : decode cX0_best 46 = .ok (.iload_n 1, 1) := by decide +kernel
theorem dX0_best_47 : decode cX0_best 47 = .ok (.iload_n 2, 1) := by decide +kernel
theorem dX0_best_48 : decode cX0_best 48 = .ok (.iadd, 1) := by decide +kernel
theorem dX0_best_49 : decode cX0_best 49 = .ok (.ireturn, 1) := by decide +kernel
theorem dX0_undo_0 : decode cX0_undo 0 = .ok (.iload_n 1, 1) := by decide +kernel
theorem dX0_undo_1 : decode cX0_undo 1 = .ok (.iconst 0, 1) := by decide +kernel
theorem dX0_undo_2 : decode cX0_undo 2 = .ok (.ldc 54, 2) := by decide +kernel
theorem dX0_undo_4 : decode cX0_undo 4 = .ok (.invokestatic 23, 3) := by decide +kernel
theorem dX0_undo_7 : decode cX0_undo 7 = .ok (.aload_n 0, 1) := by decide +kernel
theorem dX0_undo_8 : decode cX0_undo 8 = .ok (.getfield 13, 3) := by decide +kernel
theorem dX0_undo_11 : decode cX0_undo 11 = .ok (.bipush 8, 2) := by decide +kernel
theorem dX0_undo_13 : decode cX0_undo 13 = .ok (.invokestatic 55, 3) := by decide +kernel
theorem dX0_undo_16 : decode cX0_undo 16 = .ok (.istore_n 2, 1) := by decide +kernel
theorem dX0_undo_17 : decode cX0_undo 17 = .ok (.iload_n 1, 1) := by decide +kernel
theorem dX0_undo_18 : decode cX0_undo 18 = .ok (.istore_n 3, 1) := by decide +kernel
theorem dX0_undo_19 : decode cX0_undo 19 = .ok (.iconst 0, 1) := by decide +kernel
theorem dX0_undo_20 : decode cX0_undo 20 = .ok (.istore 4, 2) := by decide +kernel
theorem dX0_undo_22 : decode cX0_undo 22 = .ok (.iload 4, 2) := by decide +kernel
theorem dX0_undo_24 : decode cX0_undo 24 = .ok (.iload_n 2, 1) := by decide +kernel
theorem dX0_undo_25 : decode cX0_undo 25 = .ok (.if_icmp .ge 22, 3) := by decide +kernel
theorem dX0_undo_28 : decode cX0_undo 28 = .ok (.aload_n 0, 1) := by decide +kernel
theorem dX0_undo_29 : decode cX0_undo 29 = .ok (.iload 4, 2) := by decide +kernel
theorem dX0_undo_31 : decode cX0_undo 31 = .ok (.iload_n 3, 1) := by decide +kernel
theorem dX0_undo_32 : decode cX0_undo 32 = .ok (.iconst 5, 1) := by decide +kernel
theorem dX0_undo_33 : decode cX0_undo 33 = .ok (.irem, 1) := by decide +kernel
theorem dX0_undo_34 : decode cX0_undo 34 = .ok (.invokevirtual 47, 3) := by decide +kernel
theorem dX0_undo_37 : decode cX0_undo 37 = .ok (.iload_n 3, 1) := by decide +kernel
theorem dX0_undo_38 : decode cX0_undo 38 = .ok (.iconst 5, 1) := by decide +kernel
theorem dX0_undo_39 : decode cX0_undo 39 = .ok (.idiv, 1) := by decide +kernel
theorem dX0_undo_40 : decode cX0_undo 40 = .ok (.istore_n 3, 1) := by decide +kernel
theorem dX0_undo_41 : decode cX0_undo 41 = .ok (.iinc 4 1, 3) := by decide +kernel
theorem dX0_undo_44 : decode cX0_undo 44 = .ok (.goto (-22), 3) := by decide +kernel
theorem dX0_undo_47 : decode cX0_undo 47 = .ok (.return_, 1) := by decide +kernel
theorem dX0_hash_0 : decode cX0_hash 0 = .ok (.aload_n 0, 1) := by decide +kernel
theorem dX0_hash_1 : decode cX0_hash 1 = .ok (.getfield 13, 3) := by decide +kernel
theorem dX0_hash_4 : decode cX0_hash 4 = .ok (.aload_n 0, 1) := by decide +kernel
theorem dX0_hash_5 : decode cX0_hash 5 = .ok (.getfield 17, 3) := by decide +kernel
theorem dX0_hash_8 : decode cX0_hash 8 = .ok (.imul, 1) := by decide +kernel
theorem dX0_hash_9 : decode cX0_hash 9 = .ok (.istore_n 1, 1) := by decide +kernel
theorem dX0_hash_10 : decode cX0_hash 10 = .ok (.iconst 1, 1) := by decide +kernel
theorem dX0_hash_11 : decode cX0_hash 11 = .ok (.istore_n 2, 1) := by decide +kernel
theorem dX0_hash_12 : decode cX0_hash 12 = .ok (.iconst 0, 1) := by decide +kernel
theorem dX0_hash_13 : decode cX0_hash 13 = .ok (.istore_n 3, 1) := by decide +kernel
theorem dX0_hash_14 : decode cX0_hash 14 = .ok (.iload_n 3, 1) := by decide +kernel
theorem dX0_hash_15 : decode cX0_hash 15 = .ok (.iload_n 1, 1) := by decide +kernel
theorem dX0_hash_16 : decode cX0_hash 16 = .ok (.if_icmp .ge 21, 3) := by decide +kernel
theorem dX0_hash_19 : decode cX0_hash 19 = .ok (.bipush 31, 2) := by decide +kernel
theorem dX0_hash_21 : decode cX0_hash 21 = .ok (.iload_n 2, 1) := by decide +kernel
theorem dX0_hash_22 : decode cX0_hash 22 = .ok (.imul, 1) := by decide +kernel
theorem dX0_hash_23 : decode cX0_hash 23 = .ok (.aload_n 0, 1) := by decide +kernel
theorem dX0_hash_24 : decode cX0_hash 24 = .ok (.getfield 9, 3) := by decide +kernel
theorem dX0_hash_27 : decode cX0_hash 27 = .ok (.iload_n 3, 1) := by decide +kernel
theorem dX0_hash_28 : decode cX0_hash 28 = .ok (.iaload, 1) := by decide +kernel
theorem dX0_hash_29 : decode cX0_hash 29 = .ok (.iadd, 1) := by decide +kernel
theorem dX0_hash_30 : decode cX0_hash 30 = .ok (.istore_n 2, 1) := by decide +kernel
theorem dX0_hash_31 : decode cX0_hash 31 = .ok (.iinc 3 1, 3) := by decide +kernel
theorem dX0_hash_34 : decode cX0_hash 34 = .ok (.goto (-20), 3) := by decide +kernel
theorem dX0_hash_37 : decode cX0_hash 37 = .ok (.iload_n 2, 1) := by decide +kernel
theorem dX0_hash_38 : decode cX0_hash 38 = .ok (.ireturn, 1) := by decide +kernel
theorem dX0_pass_0 : decode cX0_pass 0 = .ok (.iload_n 1, 1) := by decide +kernel
theorem dX0_pass_1 : decode cX0_pass 1 = .ok (.iconst 0, 1) := by decide +kernel
theorem dX0_pass_2 : decode cX0_pass 2 = .ok (.bipush 6, 2) := by decide +kernel
theorem dX0_pass_4 : decode cX0_pass 4 = .ok (.invokestatic 23, 3) := by decide +kernel
theorem dX0_pass_7 : decode cX0_pass 7 = .ok (.iload_n 2, 1) := by decide +kernel
theorem dX0_pass_8 : decode cX0_pass 8 = .ok (.iconst 1, 1) := by decide +kernel
theorem dX0_pass_9 : decode cX0_pass 9 = .ok (.ldc 61, 2) := by decide +kernel
theorem dX0_pass_11 : decode cX0_pass 11 = .ok (.invokestatic 23, 3) := by decide +kernel
theorem dX0_pass_14 : decode cX0_pass 14 = .ok (.iload_n 3, 1) := by decide +kernel
theorem dX0_pass_15 : decode cX0_pass 15 = .ok (.iconst 1, 1) := by decide +kernel
theorem dX0_pass_16 : decode cX0_pass 16 = .ok (.ldc 61, 2) := by decide +kernel
theorem dX0_pass_18 : decode cX0_pass 18 = .ok (.invokestatic 23, 3) := by decide +kernel
theorem dX0_pass_21 : decode cX0_pass 21 = .ok (.iload_n 2, 1) := by decide +kernel
theorem dX0_pass_22 : decode cX0_pass 22 = .ok (.getstatic 62, 3) := by decide +kernel
theorem dX0_pass_25 : decode cX0_pass 25 = .ok (.iload_n 1, 1) := by decide +kernel
theorem dX0_pass_26 : decode cX0_pass 26 = .ok (.iaload, 1) := by decide +kernel
theorem dX0_pass_27 : decode cX0_pass 27 = .ok (.getstatic 65, 3) := by decide +kernel
theorem dX0_pass_30 : decode cX0_pass 30 = .ok (.iload_n 1, 1) := by decide +kernel
theorem dX0_pass_31 : decode cX0_pass 31 = .ok (.iaload, 1) := by decide +kernel
theorem dX0_pass_32 : decode cX0_pass 32 = .ok (.invokestatic 68, 3) := by decide +kernel
theorem dX0_pass_35 : decode cX0_pass 35 = .ok (.istore 5, 2) := by decide +kernel
theorem dX0_pass_37 : decode cX0_pass 37 = .ok (.iload_n 3, 1) := by decide +kernel
theorem dX0_pass_38 : decode cX0_pass 38 = .ok (.getstatic 72, 3) := by decide +kernel
theorem dX0_pass_41 : decode cX0_pass 41 = .ok (.iload_n 1, 1) := by decide +kernel
theorem dX0_pass_42 : decode cX0_pass 42 = .ok (.iaload, 1) := by decide +kernel
theorem dX0_pass_43 : decode cX0_pass 43 = .ok (.getstatic 75, 3) := by decide +kernel
theorem dX0_pass_46 : decode cX0_pass 46 = .ok (.iload_n 1, 1) := by decide +kernel
theorem dX0_pass_47 : decode cX0_pass 47 = .ok (.iaload, 1) := by decide +kernel
theorem dX0_pass_48 : decode cX0_pass 48 = .ok (.invokestatic 68, 3) := by decide +kernel
theorem dX0_pass_51 : decode cX0_pass 51 = .ok (.istore 6, 2) := by decide +kernel
theorem dX0_pass_53 : decode cX0_pass 53 = .ok (.iload 5, 2) := by decide +kernel
theorem dX0_pass_55 : decode cX0_pass 55 = .ok (.ifCond .eq 8, 3) := by decide +kernel
theorem dX0_pass_58 : decode cX0_pass 58 = .ok (.iload 6, 2) := by decide +kernel
theorem dX0_pass_60 : decode cX0_pass 60 = .ok (.ifCond .ne 5, 3) := by decide +kernel
theorem dX0_pass_63 : decode cX0_pass 63 = .ok (.iconst 0, 1) := by decide +kernel
theorem dX0_pass_64 : decode cX0_pass 64 = .ok (.ireturn, 1) := by decide +kernel
theorem dX0_pass_65 : decode cX0_pass 65 = .ok (.iload 4, 2) := by decide +kernel
theorem dX0_pass_67 : decode cX0_pass 67 = .ok (.ifCond .eq 8, 3) := by decide +kernel
theorem dX0_pass_70 : decode cX0_pass 70 = .ok (.iload 6, 2) := by decide +kernel
theorem dX0_pass_72 : decode cX0_pass 72 = .ok (.goto 5, 3) := by decide +kernel
theorem dX0_pass_75 : decode cX0_pass 75 = .ok (.iload 5, 2) := by decide +kernel
theorem dX0_pass_77 : decode cX0_pass 77 = .ok (.ireturn, 1) := by decide +kernel
theorem dX0_passOf_0 : decode cX0_passOf 0 = .ok (.iload_n 1, 1) := by decide +kernel
theorem dX0_passOf_1 : decode cX0_passOf 1 = .ok (.iconst 0, 1) := by decide +kernel
theorem dX0_passOf_2 : decode cX0_passOf 2 = .ok (.ldc 78, 2) := by decide +kernel
theorem dX0_passOf_4 : decode cX0_passOf 4 = .ok (.invokestatic 23, 3) := by decide +kernel
theorem dX0_passOf_7 : decode cX0_passOf 7 = .ok (.iload_n 2, 1) := by decide +kernel
theorem dX0_passOf_8 : decode cX0_passOf 8 = .ok (.iconst 0, 1) := by decide +kernel
theorem dX0_passOf_9 : decode cX0_passOf 9 = .ok (.ldc 78, 2) := by decide +kernel
theorem dX0_passOf_11 : decode cX0_passOf 11 = .ok (.invokestatic 23, 3) := by decide +kernel
theorem dX0_passOf_14 : decode cX0_passOf 14 = .ok (.iconst 0, 1) := by decide +kernel
theorem dX0_passOf_15 : decode cX0_passOf 15 = .ok (.istore_n 3, 1) := by decide +kernel
theorem dX0_passOf_16 : decode cX0_passOf 16 = .ok (.iload_n 3, 1) := by decide +kernel
theorem dX0_passOf_17 : decode cX0_passOf 17 = .ok (.bipush 6, 2) := by decide +kernel
theorem dX0_passOf_19 : decode cX0_passOf 19 = .ok (.if_icmp .ge 41, 3) := by decide +kernel
theorem dX0_passOf_22 : decode cX0_passOf 22 = .ok (.iload_n 1, 1) := by decide +kernel
theorem dX0_passOf_23 : decode cX0_passOf 23 = .ok (.getstatic 65, 3) := by decide +kernel
theorem dX0_passOf_26 : decode cX0_passOf 26 = .ok (.iload_n 3, 1) := by decide +kernel
theorem dX0_passOf_27 : decode cX0_passOf 27 = .ok (.iaload, 1) := by decide +kernel
theorem dX0_passOf_28 : decode cX0_passOf 28 = .ok (.irem, 1) := by decide +kernel
theorem dX0_passOf_29 : decode cX0_passOf 29 = .ok (.getstatic 62, 3) := by decide +kernel
theorem dX0_passOf_32 : decode cX0_passOf 32 = .ok (.iload_n 3, 1) := by decide +kernel
theorem dX0_passOf_33 : decode cX0_passOf 33 = .ok (.iaload, 1) := by decide +kernel
theorem dX0_passOf_34 : decode cX0_passOf 34 = .ok (.if_icmp .ne 20, 3) := by decide +kernel
theorem dX0_passOf_37 : decode cX0_passOf 37 = .ok (.iload_n 2, 1) := by decide +kernel
theorem dX0_passOf_38 : decode cX0_passOf 38 = .ok (.getstatic 75, 3) := by decide +kernel
theorem dX0_passOf_41 : decode cX0_passOf 41 = .ok (.iload_n 3, 1) := by decide +kernel
theorem dX0_passOf_42 : decode cX0_passOf 42 = .ok (.iaload, 1) := by decide +kernel
theorem dX0_passOf_43 : decode cX0_passOf 43 = .ok (.irem, 1) := by decide +kernel
theorem dX0_passOf_44 : decode cX0_passOf 44 = .ok (.getstatic 72, 3) := by decide +kernel
theorem dX0_passOf_47 : decode cX0_passOf 47 = .ok (.iload_n 3, 1) := by decide +kernel
theorem dX0_passOf_48 : decode cX0_passOf 48 = .ok (.iaload, 1) := by decide +kernel
theorem dX0_passOf_49 : decode cX0_passOf 49 = .ok (.if_icmp .ne 5, 3) := by decide +kernel
theorem dX0_passOf_52 : decode cX0_passOf 52 = .ok (.iload_n 3, 1) := by decide +kernel
theorem dX0_passOf_53 : decode cX0_passOf 53 = .ok (.ireturn, 1) := by decide +kernel
theorem dX0_passOf_54 : decode cX0_passOf 54 = .ok (.iinc 3 1, 3) := by decide +kernel
theorem dX0_passOf_57 : decode cX0_passOf 57 = .ok (.goto (-41), 3) := by decide +kernel
theorem dX0_passOf_60 : decode cX0_passOf 60 = .ok (.bipush 6, 2) := by decide +kernel
theorem dX0_passOf_62 : decode cX0_passOf 62 = .ok (.ireturn, 1) := by decide +kernel
theorem dX0_tellRow_0 : decode cX0_tellRow 0 = .ok (.aload_n 0, 1) := by decide +kernel
theorem dX0_tellRow_1 : decode cX0_tellRow 1 = .ok (.getfield 17, 3) := by decide +kernel
theorem dX0_tellRow_4 : decode cX0_tellRow 4 = .ok (.iconst 1, 1) := by decide +kernel
theorem dX0_tellRow_5 : decode cX0_tellRow 5 = .ok (.isub, 1) := by decide +kernel
theorem dX0_tellRow_6 : decode cX0_tellRow 6 = .ok (.istore_n 3, 1) := by decide +kernel
theorem dX0_tellRow_7 : decode cX0_tellRow 7 = .ok (.iload_n 3, 1) := by decide +kernel
theorem dX0_tellRow_8 : decode cX0_tellRow 8 = .ok (.ifCond .lt 45, 3) := by decide +kernel
theorem dX0_tellRow_11 : decode cX0_tellRow 11 = .ok (.iload_n 1, 1) := by decide +kernel
theorem dX0_tellRow_12 : decode cX0_tellRow 12 = .ok (.aload_n 0, 1) := by decide +kernel
theorem dX0_tellRow_13 : decode cX0_tellRow 13 = .ok (.getfield 17, 3) := by decide +kernel
theorem dX0_tellRow_16 : decode cX0_tellRow 16 = .ok (.imul, 1) := by decide +kernel
theorem dX0_tellRow_17 : decode cX0_tellRow 17 = .ok (.iload_n 3, 1) := by decide +kernel
theorem dX0_tellRow_18 : decode cX0_tellRow 18 = .ok (.iadd, 1) := by decide +kernel
theorem dX0_tellRow_19 : decode cX0_tellRow 19 = .ok (.istore 4, 2) := by decide +kernel
theorem dX0_tellRow_21 : decode cX0_tellRow 21 = .ok (.aload_n 0, 1) := by decide +kernel
theorem dX0_tellRow_22 : decode cX0_tellRow 22 = .ok (.getfield 9, 3) := by decide +kernel
theorem dX0_tellRow_25 : decode cX0_tellRow 25 = .ok (.iload 4, 2) := by decide +kernel
theorem dX0_tellRow_27 : decode cX0_tellRow 27 = .ok (.aload_n 0, 1) := by decide +kernel
theorem dX0_tellRow_28 : decode cX0_tellRow 28 = .ok (.getfield 9, 3) := by decide +kernel
theorem dX0_tellRow_31 : decode cX0_tellRow 31 = .ok (.iload 4, 2) := by decide +kernel
theorem dX0_tellRow_33 : decode cX0_tellRow 33 = .ok (.iaload, 1) := by decide +kernel
theorem dX0_tellRow_34 : decode cX0_tellRow 34 = .ok (.aload_n 0, 1) := by decide +kernel
theorem dX0_tellRow_35 : decode cX0_tellRow 35 = .ok (.iload_n 1, 1) := by decide +kernel
theorem dX0_tellRow_36 : decode cX0_tellRow 36 = .ok (.iload_n 3, 1) := by decide +kernel
theorem dX0_tellRow_37 : decode cX0_tellRow 37 = .ok (.iload_n 2, 1) := by decide +kernel
theorem dX0_tellRow_38 : decode cX0_tellRow 38 = .ok (.invokevirtual 79, 3) := by decide +kernel
theorem dX0_tellRow_41 : decode cX0_tellRow 41 = .ok (.isub, 1) := by decide +kernel
theorem dX0_tellRow_42 : decode cX0_tellRow 42 = .ok (.sipush 255, 3) := by decide +kernel
theorem dX0_tellRow_45 : decode cX0_tellRow 45 = .ok (.iand, 1) := by decide +kernel
theorem dX0_tellRow_46 : decode cX0_tellRow 46 = .ok (.iastore, 1) := by decide +kernel
theorem dX0_tellRow_47 : decode cX0_tellRow 47 = .ok (.iinc 3 (-1), 3) := by decide +kernel
theorem dX0_tellRow_50 : decode cX0_tellRow 50 = .ok (.goto (-43), 3) := by decide +kernel
theorem dX0_tellRow_53 : decode cX0_tellRow 53 = .ok (.return_, 1) := by decide +kernel
theorem dX0_restoreRow_0 : decode cX0_restoreRow 0 = .ok (.iconst 0, 1) := by decide +kernel
theorem dX0_restoreRow_1 : decode cX0_restoreRow 1 = .ok (.istore_n 3, 1) := by decide +kernel
theorem dX0_restoreRow_2 : decode cX0_restoreRow 2 = .ok (.iload_n 3, 1) := by decide +kernel
theorem dX0_restoreRow_3 : decode cX0_restoreRow 3 = .ok (.aload_n 0, 1) := by decide +kernel
theorem dX0_restoreRow_4 : decode cX0_restoreRow 4 = .ok (.getfield 17, 3) := by decide +kernel
theorem dX0_restoreRow_7 : decode cX0_restoreRow 7 = .ok (.if_icmp .ge 45, 3) := by decide +kernel
theorem dX0_restoreRow_10 : decode cX0_restoreRow 10 = .ok (.iload_n 1, 1) := by decide +kernel
theorem dX0_restoreRow_11 : decode cX0_restoreRow 11 = .ok (.aload_n 0, 1) := by decide +kernel
theorem dX0_restoreRow_12 : decode cX0_restoreRow 12 = .ok (.getfield 17, 3) := by decide +kernel
theorem dX0_restoreRow_15 : decode cX0_restoreRow 15 = .ok (.imul, 1) := by decide +kernel
theorem dX0_restoreRow_16 : decode cX0_restoreRow 16 = .ok (.iload_n 3, 1) := by decide +kernel
theorem dX0_restoreRow_17 : decode cX0_restoreRow 17 = .ok (.iadd, 1) := by decide +kernel
theorem dX0_restoreRow_18 : decode cX0_restoreRow 18 = .ok (.istore 4, 2) := by decide +kernel
theorem dX0_restoreRow_20 : decode cX0_restoreRow 20 = .ok (.aload_n 0, 1) := by decide +kernel
theorem dX0_restoreRow_21 : decode cX0_restoreRow 21 = .ok (.getfield 9, 3) := by decide +kernel
theorem dX0_restoreRow_24 : decode cX0_restoreRow 24 = .ok (.iload 4, 2) := by decide +kernel
theorem dX0_restoreRow_26 : decode cX0_restoreRow 26 = .ok (.aload_n 0, 1) := by decide +kernel
theorem dX0_restoreRow_27 : decode cX0_restoreRow 27 = .ok (.getfield 9, 3) := by decide +kernel
theorem dX0_restoreRow_30 : decode cX0_restoreRow 30 = .ok (.iload 4, 2) := by decide +kernel
theorem dX0_restoreRow_32 : decode cX0_restoreRow 32 = .ok (.iaload, 1) := by decide +kernel
theorem dX0_restoreRow_33 : decode cX0_restoreRow 33 = .ok (.aload_n 0, 1) := by decide +kernel
theorem dX0_restoreRow_34 : decode cX0_restoreRow 34 = .ok (.iload_n 1, 1) := by decide +kernel
theorem dX0_restoreRow_35 : decode cX0_restoreRow 35 = .ok (.iload_n 3, 1) := by decide +kernel
theorem dX0_restoreRow_36 : decode cX0_restoreRow 36 = .ok (.iload_n 2, 1) := by decide +kernel
theorem dX0_restoreRow_37 : decode cX0_restoreRow 37 = .ok (.invokevirtual 79, 3) := by decide +kernel
theorem dX0_restoreRow_40 : decode cX0_restoreRow 40 = .ok (.iadd, 1) := by decide +kernel
theorem dX0_restoreRow_41 : decode cX0_restoreRow 41 = .ok (.sipush 255, 3) := by decide +kernel
theorem dX0_restoreRow_44 : decode cX0_restoreRow 44 = .ok (.iand, 1) := by decide +kernel
theorem dX0_restoreRow_45 : decode cX0_restoreRow 45 = .ok (.iastore, 1) := by decide +kernel
theorem dX0_restoreRow_46 : decode cX0_restoreRow 46 = .ok (.iinc 3 1, 3) := by decide +kernel
theorem dX0_restoreRow_49 : decode cX0_restoreRow 49 = .ok (.goto (-47), 3) := by decide +kernel
theorem dX0_restoreRow_52 : decode cX0_restoreRow 52 = .ok (.return_, 1) := by decide +kernel
theorem dX0_leastFilter_0 : decode cX0_leastFilter 0 = .ok (.iconst 0, 1) := by decide +kernel
theorem dX0_leastFilter_1 : decode cX0_leastFilter 1 = .ok (.istore_n 2, 1) := by decide +kernel
theorem dX0_leastFilter_2 : decode cX0_leastFilter 2 = .ok (.aload_n 0, 1) := by decide +kernel
theorem dX0_leastFilter_3 : decode cX0_leastFilter 3 = .ok (.iload_n 1, 1) := by decide +kernel
theorem dX0_leastFilter_4 : decode cX0_leastFilter 4 = .ok (.iconst 0, 1) := by decide +kernel
theorem dX0_leastFilter_5 : decode cX0_leastFilter 5 = .ok (.invokevirtual 82, 3) := by decide +kernel
theorem dX0_leastFilter_8 : decode cX0_leastFilter 8 = .ok (.istore_n 3, 1) := by decide +kernel
theorem dX0_leastFilter_9 : decode cX0_leastFilter 9 = .ok (.iconst 1, 1) := by decide +kernel
theorem dX0_leastFilter_10 : decode cX0_leastFilter 10 = .ok (.istore 4, 2) := by decide +kernel
theorem dX0_leastFilter_12 : decode cX0_leastFilter 12 = .ok (.iload 4, 2) := by decide +kernel
theorem dX0_leastFilter_14 : decode cX0_leastFilter 14 = .ok (.iconst 5, 1) := by decide +kernel
theorem dX0_leastFilter_15 : decode cX0_leastFilter 15 = .ok (.if_icmp .ge 30, 3) := by decide +kernel
theorem dX0_leastFilter_18 : decode cX0_leastFilter 18 = .ok (.aload_n 0, 1) := by decide +kernel
theorem dX0_leastFilter_19 : decode cX0_leastFilter 19 = .ok (.iload_n 1, 1) := by decide +kernel
theorem dX0_leastFilter_20 : decode cX0_leastFilter 20 = .ok (.iload 4, 2) := by decide +kernel
theorem dX0_leastFilter_22 : decode cX0_leastFilter 22 = .ok (.invokevirtual 82, 3) := by decide +kernel
theorem dX0_leastFilter_25 : decode cX0_leastFilter 25 = .ok (.istore 5, 2) := by decide +kernel
theorem dX0_leastFilter_27 : decode cX0_leastFilter 27 = .ok (.iload 5, 2) := by decide +kernel
theorem dX0_leastFilter_29 : decode cX0_leastFilter 29 = .ok (.iload_n 3, 1) := by decide +kernel
theorem dX0_leastFilter_30 : decode cX0_leastFilter 30 = .ok (.if_icmp .ge 9, 3) := by decide +kernel
theorem dX0_leastFilter_33 : decode cX0_leastFilter 33 = .ok (.iload 4, 2) := by decide +kernel
theorem dX0_leastFilter_35 : decode cX0_leastFilter 35 = .ok (.istore_n 2, 1) := by decide +kernel
theorem dX0_leastFilter_36 : decode cX0_leastFilter 36 = .ok (.iload 5, 2) := by decide +kernel
theorem dX0_leastFilter_38 : decode cX0_leastFilter 38 = .ok (.istore_n 3, 1) := by decide +kernel
theorem dX0_leastFilter_39 : decode cX0_leastFilter 39 = .ok (.iinc 4 1, 3) := by decide +kernel
theorem dX0_leastFilter_42 : decode cX0_leastFilter 42 = .ok (.goto (-30), 3) := by decide +kernel
theorem dX0_leastFilter_45 : decode cX0_leastFilter 45 = .ok (.iload_n 2, 1) := by decide +kernel
theorem dX0_leastFilter_46 : decode cX0_leastFilter 46 = .ok (.ireturn, 1) := by decide +kernel
theorem dX0_sumTold_0 : decode cX0_sumTold 0 = .ok (.iconst 0, 1) := by decide +kernel
theorem dX0_sumTold_1 : decode cX0_sumTold 1 = .ok (.istore_n 3, 1) := by decide +kernel
theorem dX0_sumTold_2 : decode cX0_sumTold 2 = .ok (.iconst 0, 1) := by decide +kernel
theorem dX0_sumTold_3 : decode cX0_sumTold 3 = .ok (.istore 4, 2) := by decide +kernel
theorem dX0_sumTold_5 : decode cX0_sumTold 5 = .ok (.iload 4, 2) := by decide +kernel
theorem dX0_sumTold_7 : decode cX0_sumTold 7 = .ok (.aload_n 0, 1) := by decide +kernel
theorem dX0_sumTold_8 : decode cX0_sumTold 8 = .ok (.getfield 17, 3) := by decide +kernel
theorem dX0_sumTold_11 : decode cX0_sumTold 11 = .ok (.if_icmp .ge 36, 3) := by decide +kernel
theorem dX0_sumTold_14 : decode cX0_sumTold 14 = .ok (.aload_n 0, 1) := by decide +kernel
theorem dX0_sumTold_15 : decode cX0_sumTold 15 = .ok (.iload_n 1, 1) := by decide +kernel
theorem dX0_sumTold_16 : decode cX0_sumTold 16 = .ok (.iload 4, 2) := by decide +kernel
theorem dX0_sumTold_18 : decode cX0_sumTold 18 = .ok (.invokevirtual 85, 3) := by decide +kernel
theorem dX0_sumTold_21 : decode cX0_sumTold 21 = .ok (.aload_n 0, 1) := by decide +kernel
theorem dX0_sumTold_22 : decode cX0_sumTold 22 = .ok (.iload_n 1, 1) := by decide +kernel
theorem dX0_sumTold_23 : decode cX0_sumTold 23 = .ok (.iload 4, 2) := by decide +kernel
theorem dX0_sumTold_25 : decode cX0_sumTold 25 = .ok (.iload_n 2, 1) := by decide +kernel
theorem dX0_sumTold_26 : decode cX0_sumTold 26 = .ok (.invokevirtual 79, 3) := by decide +kernel
theorem dX0_sumTold_29 : decode cX0_sumTold 29 = .ok (.isub, 1) := by decide +kernel
theorem dX0_sumTold_30 : decode cX0_sumTold 30 = .ok (.i2b, 1) := by decide +kernel
theorem dX0_sumTold_31 : decode cX0_sumTold 31 = .ok (.istore 5, 2) := by decide +kernel
theorem dX0_sumTold_33 : decode cX0_sumTold 33 = .ok (.iload_n 3, 1) := by decide +kernel
theorem dX0_sumTold_34 : decode cX0_sumTold 34 = .ok (.iload 5, 2) := by decide +kernel
theorem dX0_sumTold_36 : decode cX0_sumTold 36 = .ok (.invokestatic 88, 3) := by decide +kernel
theorem dX0_sumTold_39 : decode cX0_sumTold 39 = .ok (.iadd, 1) := by decide +kernel
theorem dX0_sumTold_40 : decode cX0_sumTold 40 = .ok (.istore_n 3, 1) := by decide +kernel
theorem dX0_sumTold_41 : decode cX0_sumTold 41 = .ok (.iinc 4 1, 3) := by decide +kernel
theorem dX0_sumTold_44 : decode cX0_sumTold 44 = .ok (.goto (-39), 3) := by decide +kernel
theorem dX0_sumTold_47 : decode cX0_sumTold 47 = .ok (.iload_n 3, 1) := by decide +kernel
theorem dX0_sumTold_48 : decode cX0_sumTold 48 = .ok (.ireturn, 1) := by decide +kernel
theorem dX0_foretold_0 : decode cX0_foretold 0 = .ok (.aload_n 0, 1) := by decide +kernel
theorem dX0_foretold_1 : decode cX0_foretold 1 = .ok (.iload_n 1, 1) := by decide +kernel
theorem dX0_foretold_2 : decode cX0_foretold 2 = .ok (.iload_n 2, 1) := by decide +kernel
theorem dX0_foretold_3 : decode cX0_foretold 3 = .ok (.aload_n 0, 1) := by decide +kernel
theorem dX0_foretold_4 : decode cX0_foretold 4 = .ok (.getfield 20, 3) := by decide +kernel
theorem dX0_foretold_7 : decode cX0_foretold 7 = .ok (.isub, 1) := by decide +kernel
theorem dX0_foretold_8 : decode cX0_foretold 8 = .ok (.invokevirtual 85, 3) := by decide +kernel
theorem dX0_foretold_11 : decode cX0_foretold 11 = .ok (.istore 4, 2) := by decide +kernel
theorem dX0_foretold_13 : decode cX0_foretold 13 = .ok (.aload_n 0, 1) := by decide +kernel
theorem dX0_foretold_14 : decode cX0_foretold 14 = .ok (.iload_n 1, 1) := by decide +kernel
theorem dX0_foretold_15 : decode cX0_foretold 15 = .ok (.iconst 1, 1) := by decide +kernel
theorem dX0_foretold_16 : decode cX0_foretold 16 = .ok (.isub, 1) := by decide +kernel
theorem dX0_foretold_17 : decode cX0_foretold 17 = .ok (.iload_n 2, 1) := by decide +kernel
theorem dX0_foretold_18 : decode cX0_foretold 18 = .ok (.invokevirtual 85, 3) := by decide +kernel
theorem dX0_foretold_21 : decode cX0_foretold 21 = .ok (.istore 5, 2) := by decide +kernel
theorem dX0_foretold_23 : decode cX0_foretold 23 = .ok (.iload_n 3, 1) := by decide +kernel
theorem dX0_foretold_24 : decode cX0_foretold 24 = .ok (.tableswitch 67 1 4 #[32, 35, 38, 46], 32) := by decide +kernel
theorem dX0_foretold_56 : decode cX0_foretold 56 = .ok (.iload 4, 2) := by decide +kernel
theorem dX0_foretold_58 : decode cX0_foretold 58 = .ok (.ireturn, 1) := by decide +kernel
theorem dX0_foretold_59 : decode cX0_foretold 59 = .ok (.iload 5, 2) := by decide +kernel
theorem dX0_foretold_61 : decode cX0_foretold 61 = .ok (.ireturn, 1) := by decide +kernel
theorem dX0_foretold_62 : decode cX0_foretold 62 = .ok (.iload 4, 2) := by decide +kernel
theorem dX0_foretold_64 : decode cX0_foretold 64 = .ok (.iload 5, 2) := by decide +kernel
theorem dX0_foretold_66 : decode cX0_foretold 66 = .ok (.iadd, 1) := by decide +kernel
theorem dX0_foretold_67 : decode cX0_foretold 67 = .ok (.iconst 2, 1) := by decide +kernel
theorem dX0_foretold_68 : decode cX0_foretold 68 = .ok (.idiv, 1) := by decide +kernel
theorem dX0_foretold_69 : decode cX0_foretold 69 = .ok (.ireturn, 1) := by decide +kernel
theorem dX0_foretold_70 : decode cX0_foretold 70 = .ok (.iload 4, 2) := by decide +kernel
theorem dX0_foretold_72 : decode cX0_foretold 72 = .ok (.iload 5, 2) := by decide +kernel
theorem dX0_foretold_74 : decode cX0_foretold 74 = .ok (.aload_n 0, 1) := by decide +kernel
theorem dX0_foretold_75 : decode cX0_foretold 75 = .ok (.iload_n 1, 1) := by decide +kernel
theorem dX0_foretold_76 : decode cX0_foretold 76 = .ok (.iconst 1, 1) := by decide +kernel
theorem dX0_foretold_77 : decode cX0_foretold 77 = .ok (.isub, 1) := by decide +kernel
theorem dX0_foretold_78 : decode cX0_foretold 78 = .ok (.iload_n 2, 1) := by decide +kernel
theorem dX0_foretold_79 : decode cX0_foretold 79 = .ok (.aload_n 0, 1) := by decide +kernel
theorem dX0_foretold_80 : decode cX0_foretold 80 = .ok (.getfield 20, 3) := by decide +kernel
theorem dX0_foretold_83 : decode cX0_foretold 83 = .ok (.isub, 1) := by decide +kernel
theorem dX0_foretold_84 : decode cX0_foretold 84 = .ok (.invokevirtual 85, 3) := by decide +kernel
theorem dX0_foretold_87 : decode cX0_foretold 87 = .ok (.invokestatic 91, 3) := by decide +kernel
theorem dX0_foretold_90 : decode cX0_foretold 90 = .ok (.ireturn, 1) := by decide +kernel
theorem dX0_foretold_91 : decode cX0_foretold 91 = .ok (.iconst 0, 1) := by decide +kernel
theorem dX0_foretold_92 : decode cX0_foretold 92 = .ok (.ireturn, 1) := by decide +kernel
theorem dX0_nearest_0 : decode cX0_nearest 0 = .ok (.iload_n 0, 1) := by decide +kernel
theorem dX0_nearest_1 : decode cX0_nearest 1 = .ok (.iload_n 1, 1) := by decide +kernel
theorem dX0_nearest_2 : decode cX0_nearest 2 = .ok (.iadd, 1) := by decide +kernel
theorem dX0_nearest_3 : decode cX0_nearest 3 = .ok (.iload_n 2, 1) := by decide +kernel
theorem dX0_nearest_4 : decode cX0_nearest 4 = .ok (.isub, 1) := by decide +kernel
theorem dX0_nearest_5 : decode cX0_nearest 5 = .ok (.istore_n 3, 1) := by decide +kernel
theorem dX0_nearest_6 : decode cX0_nearest 6 = .ok (.iload_n 3, 1) := by decide +kernel
theorem dX0_nearest_7 : decode cX0_nearest 7 = .ok (.iload_n 0, 1) := by decide +kernel
theorem dX0_nearest_8 : decode cX0_nearest 8 = .ok (.isub, 1) := by decide +kernel
theorem dX0_nearest_9 : decode cX0_nearest 9 = .ok (.invokestatic 88, 3) := by decide +kernel
theorem dX0_nearest_12 : decode cX0_nearest 12 = .ok (.istore 4, 2) := by decide +kernel
theorem dX0_nearest_14 : decode cX0_nearest 14 = .ok (.iload_n 3, 1) := by decide +kernel
theorem dX0_nearest_15 : decode cX0_nearest 15 = .ok (.iload_n 1, 1) := by decide +kernel
theorem dX0_nearest_16 : decode cX0_nearest 16 = .ok (.isub, 1) := by decide +kernel
theorem dX0_nearest_17 : decode cX0_nearest 17 = .ok (.invokestatic 88, 3) := by decide +kernel
theorem dX0_nearest_20 : decode cX0_nearest 20 = .ok (.istore 5, 2) := by decide +kernel
theorem dX0_nearest_22 : decode cX0_nearest 22 = .ok (.iload_n 3, 1) := by decide +kernel
theorem dX0_nearest_23 : decode cX0_nearest 23 = .ok (.iload_n 2, 1) := by decide +kernel
theorem dX0_nearest_24 : decode cX0_nearest 24 = .ok (.isub, 1) := by decide +kernel
theorem dX0_nearest_25 : decode cX0_nearest 25 = .ok (.invokestatic 88, 3) := by decide +kernel
theorem dX0_nearest_28 : decode cX0_nearest 28 = .ok (.istore 6, 2) := by decide +kernel
theorem dX0_nearest_30 : decode cX0_nearest 30 = .ok (.iload 4, 2) := by decide +kernel
theorem dX0_nearest_32 : decode cX0_nearest 32 = .ok (.iload 5, 2) := by decide +kernel
theorem dX0_nearest_34 : decode cX0_nearest 34 = .ok (.if_icmp .gt 12, 3) := by decide +kernel
theorem dX0_nearest_37 : decode cX0_nearest 37 = .ok (.iload 4, 2) := by decide +kernel
theorem dX0_nearest_39 : decode cX0_nearest 39 = .ok (.iload 6, 2) := by decide +kernel
theorem dX0_nearest_41 : decode cX0_nearest 41 = .ok (.if_icmp .gt 5, 3) := by decide +kernel
theorem dX0_nearest_44 : decode cX0_nearest 44 = .ok (.iload_n 0, 1) := by decide +kernel
theorem dX0_nearest_45 : decode cX0_nearest 45 = .ok (.ireturn, 1) := by decide +kernel
theorem dX0_nearest_46 : decode cX0_nearest 46 = .ok (.iload 5, 2) := by decide +kernel
theorem dX0_nearest_48 : decode cX0_nearest 48 = .ok (.iload 6, 2) := by decide +kernel
theorem dX0_nearest_50 : decode cX0_nearest 50 = .ok (.if_icmp .gt 7, 3) := by decide +kernel
theorem dX0_nearest_53 : decode cX0_nearest 53 = .ok (.iload_n 1, 1) := by decide +kernel
theorem dX0_nearest_54 : decode cX0_nearest 54 = .ok (.goto 4, 3) := by decide +kernel
theorem dX0_nearest_57 : decode cX0_nearest 57 = .ok (.iload_n 2, 1) := by decide +kernel
theorem dX0_nearest_58 : decode cX0_nearest 58 = .ok (.ireturn, 1) := by decide +kernel
theorem dX0_byteOrZero_0 : decode cX0_byteOrZero 0 = .ok (.iload_n 1, 1) := by decide +kernel
theorem dX0_byteOrZero_1 : decode cX0_byteOrZero 1 = .ok (.ifCond .lt 7, 3) := by decide +kernel
theorem dX0_byteOrZero_4 : decode cX0_byteOrZero 4 = .ok (.iload_n 2, 1) := by decide +kernel
theorem dX0_byteOrZero_5 : decode cX0_byteOrZero 5 = .ok (.ifCond .ge 7, 3) := by decide +kernel
theorem dX0_byteOrZero_8 : decode cX0_byteOrZero 8 = .ok (.iconst 0, 1) := by decide +kernel
theorem dX0_byteOrZero_9 : decode cX0_byteOrZero 9 = .ok (.goto 16, 3) := by decide +kernel
theorem dX0_byteOrZero_12 : decode cX0_byteOrZero 12 = .ok (.aload_n 0, 1) := by decide +kernel
theorem dX0_byteOrZero_13 : decode cX0_byteOrZero 13 = .ok (.getfield 9, 3) := by decide +kernel
theorem dX0_byteOrZero_16 : decode cX0_byteOrZero 16 = .ok (.iload_n 1, 1) := by decide +kernel
theorem dX0_byteOrZero_17 : decode cX0_byteOrZero 17 = .ok (.aload_n 0, 1) := by decide +kernel
theorem dX0_byteOrZero_18 : decode cX0_byteOrZero 18 = .ok (.getfield 17, 3) := by decide +kernel
theorem dX0_byteOrZero_21 : decode cX0_byteOrZero 21 = .ok (.imul, 1) := by decide +kernel
theorem dX0_byteOrZero_22 : decode cX0_byteOrZero 22 = .ok (.iload_n 2, 1) := by decide +kernel
theorem dX0_byteOrZero_23 : decode cX0_byteOrZero 23 = .ok (.iadd, 1) := by decide +kernel
theorem dX0_byteOrZero_24 : decode cX0_byteOrZero 24 = .ok (.iaload, 1) := by decide +kernel
theorem dX0_byteOrZero_25 : decode cX0_byteOrZero 25 = .ok (.ireturn, 1) := by decide +kernel
theorem dX0_pointsAlong_0 : decode cX0_pointsAlong 0 = .ok (.iload_n 0, 1) := by decide +kernel
theorem dX0_pointsAlong_1 : decode cX0_pointsAlong 1 = .ok (.iload_n 1, 1) := by decide +kernel
theorem dX0_pointsAlong_2 : decode cX0_pointsAlong 2 = .ok (.isub, 1) := by decide +kernel
theorem dX0_pointsAlong_3 : decode cX0_pointsAlong 3 = .ok (.iload_n 2, 1) := by decide +kernel
theorem dX0_pointsAlong_4 : decode cX0_pointsAlong 4 = .ok (.iadd, 1) := by decide +kernel
theorem dX0_pointsAlong_5 : decode cX0_pointsAlong 5 = .ok (.iconst 1, 1) := by decide +kernel
theorem dX0_pointsAlong_6 : decode cX0_pointsAlong 6 = .ok (.isub, 1) := by decide +kernel
theorem dX0_pointsAlong_7 : decode cX0_pointsAlong 7 = .ok (.iload_n 2, 1) := by decide +kernel
theorem dX0_pointsAlong_8 : decode cX0_pointsAlong 8 = .ok (.idiv, 1) := by decide +kernel
theorem dX0_pointsAlong_9 : decode cX0_pointsAlong 9 = .ok (.ireturn, 1) := by decide +kernel
theorem dX0_requireByte_0 : decode cX0_requireByte 0 = .ok (.aload_n 0, 1) := by decide +kernel
theorem dX0_requireByte_1 : decode cX0_requireByte 1 = .ok (.iload_n 1, 1) := by decide +kernel
theorem dX0_requireByte_2 : decode cX0_requireByte 2 = .ok (.invokevirtual 37, 3) := by decide +kernel
theorem dX0_requireByte_5 : decode cX0_requireByte 5 = .ok (.iload_n 2, 1) := by decide +kernel
theorem dX0_requireByte_6 : decode cX0_requireByte 6 = .ok (.iconst 0, 1) := by decide +kernel
theorem dX0_requireByte_7 : decode cX0_requireByte 7 = .ok (.aload_n 0, 1) := by decide +kernel
theorem dX0_requireByte_8 : decode cX0_requireByte 8 = .ok (.getfield 17, 3) := by decide +kernel
theorem dX0_requireByte_11 : decode cX0_requireByte 11 = .ok (.iconst 1, 1) := by decide +kernel
theorem dX0_requireByte_12 : decode cX0_requireByte 12 = .ok (.isub, 1) := by decide +kernel
theorem dX0_requireByte_13 : decode cX0_requireByte 13 = .ok (.invokestatic 23, 3) := by decide +kernel
theorem dX0_requireByte_16 : decode cX0_requireByte 16 = .ok (.return_, 1) := by decide +kernel
theorem dX0_requireRow_0 : decode cX0_requireRow 0 = .ok (.iload_n 1, 1) := by decide +kernel
theorem dX0_requireRow_1 : decode cX0_requireRow 1 = .ok (.iconst 0, 1) := by decide +kernel
theorem dX0_requireRow_2 : decode cX0_requireRow 2 = .ok (.aload_n 0, 1) := by decide +kernel
theorem dX0_requireRow_3 : decode cX0_requireRow 3 = .ok (.getfield 13, 3) := by decide +kernel
theorem dX0_requireRow_6 : decode cX0_requireRow 6 = .ok (.iconst 1, 1) := by decide +kernel
theorem dX0_requireRow_7 : decode cX0_requireRow 7 = .ok (.isub, 1) := by decide +kernel
theorem dX0_requireRow_8 : decode cX0_requireRow 8 = .ok (.invokestatic 23, 3) := by decide +kernel
theorem dX0_requireRow_11 : decode cX0_requireRow 11 = .ok (.return_, 1) := by decide +kernel
theorem dX0_requireFilter_0 : decode cX0_requireFilter 0 = .ok (.iload_n 0, 1) := by decide +kernel
theorem dX0_requireFilter_1 : decode cX0_requireFilter 1 = .ok (.iconst 0, 1) := by decide +kernel
theorem dX0_requireFilter_2 : decode cX0_requireFilter 2 = .ok (.iconst 4, 1) := by decide +kernel
theorem dX0_requireFilter_3 : decode cX0_requireFilter 3 = .ok (.invokestatic 23, 3) := by decide +kernel
theorem dX0_requireFilter_6 : decode cX0_requireFilter 6 = .ok (.return_, 1) := by decide +kernel
theorem dX0_requireWithin_0 : decode cX0_requireWithin 0 = .ok (.iload_n 0, 1) := by decide +kernel
theorem dX0_requireWithin_1 : decode cX0_requireWithin 1 = .ok (.iload_n 1, 1) := by decide +kernel
theorem dX0_requireWithin_2 : decode cX0_requireWithin 2 = .ok (.if_icmp .lt 8, 3) := by decide +kernel
theorem dX0_requireWithin_5 : decode cX0_requireWithin 5 = .ok (.iload_n 0, 1) := by decide +kernel
theorem dX0_requireWithin_6 : decode cX0_requireWithin 6 = .ok (.iload_n 2, 1) := by decide +kernel
theorem dX0_requireWithin_7 : decode cX0_requireWithin 7 = .ok (.if_icmp .le 13, 3) := by decide +kernel
theorem dX0_requireWithin_10 : decode cX0_requireWithin 10 = .ok (.new 94, 3) := by decide +kernel
theorem dX0_requireWithin_13 : decode cX0_requireWithin 13 = .ok (.dup, 1) := by decide +kernel
theorem dX0_requireWithin_14 : decode cX0_requireWithin 14 = .ok (.ldc 96, 2) := by decide +kernel
theorem dX0_requireWithin_16 : decode cX0_requireWithin 16 = .ok (.invokespecial 98, 3) := by decide +kernel
theorem dX0_requireWithin_19 : decode cX0_requireWithin 19 = .ok (.athrow, 1) := by decide +kernel
theorem dX0_requireWithin_20 : decode cX0_requireWithin 20 = .ok (.return_, 1) := by decide +kernel
theorem dJ9_abs_0f7a4_0 : decode cJ9_abs_0f7a4 0 = .ok (.iload_n 0, 1) := by decide +kernel
theorem dJ9_abs_0f7a4_1 : decode cJ9_abs_0f7a4 1 = .ok (.ifCond .ge 8, 3) := by decide +kernel
theorem dJ9_abs_0f7a4_4 : decode cJ9_abs_0f7a4 4 = .ok (.iload_n 0, 1) := by decide +kernel
theorem dJ9_abs_0f7a4_5 : decode cJ9_abs_0f7a4 5 = .ok (.ineg, 1) := by decide +kernel
theorem dJ9_abs_0f7a4_6 : decode cJ9_abs_0f7a4 6 = .ok (.goto 4, 3) := by decide +kernel
theorem dJ9_abs_0f7a4_9 : decode cJ9_abs_0f7a4 9 = .ok (.iload_n 0, 1) := by decide +kernel
theorem dJ9_abs_0f7a4_10 : decode cJ9_abs_0f7a4 10 = .ok (.ireturn, 1) := by decide +kernel
theorem dJ9_min_7cf53_0 : decode cJ9_min_7cf53 0 = .ok (.iload_n 0, 1) := by decide +kernel
theorem dJ9_min_7cf53_1 : decode cJ9_min_7cf53 1 = .ok (.iload_n 1, 1) := by decide +kernel
theorem dJ9_min_7cf53_2 : decode cJ9_min_7cf53 2 = .ok (.if_icmp .gt 7, 3) := by decide +kernel
theorem dJ9_min_7cf53_5 : decode cJ9_min_7cf53 5 = .ok (.iload_n 0, 1) := by decide +kernel
theorem dJ9_min_7cf53_6 : decode cJ9_min_7cf53 6 = .ok (.goto 4, 3) := by decide +kernel
theorem dJ9_min_7cf53_9 : decode cJ9_min_7cf53 9 = .ok (.iload_n 1, 1) := by decide +kernel
theorem dJ9_min_7cf53_10 : decode cJ9_min_7cf53 10 = .ok (.ireturn, 1) := by decide +kernel
theorem dJ7_fill_53178_0 : decode cJ7_fill_53178 0 = .ok (.iconst 0, 1) := by decide +kernel
theorem dJ7_fill_53178_1 : decode cJ7_fill_53178 1 = .ok (.istore_n 2, 1) := by decide +kernel
theorem dJ7_fill_53178_2 : decode cJ7_fill_53178 2 = .ok (.aload_n 0, 1) := by decide +kernel
theorem dJ7_fill_53178_3 : decode cJ7_fill_53178 3 = .ok (.arraylength, 1) := by decide +kernel
theorem dJ7_fill_53178_4 : decode cJ7_fill_53178 4 = .ok (.istore_n 3, 1) := by decide +kernel
theorem dJ7_fill_53178_5 : decode cJ7_fill_53178 5 = .ok (.iload_n 2, 1) := by decide +kernel
theorem dJ7_fill_53178_6 : decode cJ7_fill_53178 6 = .ok (.iload_n 3, 1) := by decide +kernel
theorem dJ7_fill_53178_7 : decode cJ7_fill_53178 7 = .ok (.if_icmp .ge 13, 3) := by decide +kernel
theorem dJ7_fill_53178_10 : decode cJ7_fill_53178 10 = .ok (.aload_n 0, 1) := by decide +kernel
theorem dJ7_fill_53178_11 : decode cJ7_fill_53178 11 = .ok (.iload_n 2, 1) := by decide +kernel
theorem dJ7_fill_53178_12 : decode cJ7_fill_53178 12 = .ok (.iload_n 1, 1) := by decide +kernel
theorem dJ7_fill_53178_13 : decode cJ7_fill_53178 13 = .ok (.iastore, 1) := by decide +kernel
theorem dJ7_fill_53178_14 : decode cJ7_fill_53178 14 = .ok (.iinc 2 1, 3) := by decide +kernel
theorem dJ7_fill_53178_17 : decode cJ7_fill_53178 17 = .ok (.goto (-12), 3) := by decide +kernel
theorem dJ7_fill_53178_20 : decode cJ7_fill_53178 20 = .ok (.return_, 1) := by decide +kernel
end
section
theorem rf_mul (a b : Nat) : nI a * nI b = nI (a * b) := (Int32.ofNat_mul a b).symm
theorem rf_ix (y rl i : Nat) : nI y * nI rl + nI i = nI (y * rl + i) := by rw [rf_mul, nI_add]
theorem rf_sub {a b : Nat} (h : b ≤ a) : nI a - nI b = nI (a - b) := (Int32.ofNat_sub a b h).symm
theorem rf_row {y rc : Nat} (rl : Nat) (h : y < rc) : y * rl + rl ≤ rc * rl := by
  have h2 : (y + 1) * rl ≤ rc * rl := Nat.mul_le_mul_right rl h
  rw [Nat.add_mul, Nat.one_mul] at h2
  exact h2
theorem rf_tS {a b : Int32} (h1 : -2147483648 ≤ a.toInt - b.toInt) (h2 : a.toInt - b.toInt < 2147483648) : (a - b).toInt = a.toInt - b.toInt := by
  rw [Int32.toInt_sub]
  exact Int.bmod_eq_of_le (by omega) (by omega)
theorem rf_tA {a b : Int32} (h1 : -2147483648 ≤ a.toInt + b.toInt) (h2 : a.toInt + b.toInt < 2147483648) : (a + b).toInt = a.toInt + b.toInt := by
  rw [Int32.toInt_add]
  exact Int.bmod_eq_of_le (by omega) (by omega)
theorem rf_neg {a b : Nat} (h : a < b) (hb : b < 2 ^ 31) : nI a - nI b < 0 := by
  rw [Int32.lt_iff_toInt_lt, rf_tS (by rw [nI_toInt (by omega), nI_toInt hb]; omega) (by rw [nI_toInt (by omega), nI_toInt hb]; omega), nI_toInt (by omega), nI_toInt hb]
  show _ < (0 : Int)
  omega
theorem rf_div {a b : Nat} (ha : a < 2 ^ 31) (hb : b < 2 ^ 31) : nI a / nI b = nI (a / b) := by
  have hne : nI b ≠ -1 := by
    intro h
    have h2 := congrArg Int32.toInt h
    rw [nI_toInt hb] at h2
    have e : (-1 : Int32).toInt = -1 := by decide
    omega
  apply Int32.toInt_inj.mp
  rw [Int32.toInt_div_of_ne_right _ _ hne, nI_toInt ha, nI_toInt hb, nI_toInt (Nat.lt_of_le_of_lt (Nat.div_le_self a b) ha)]
  rfl
theorem rf_rem {a b : Nat} (ha : a < 2 ^ 31) (hb : b < 2 ^ 31) : nI a - nI a / nI b * nI b = nI (a % b) := by
  rw [rf_div ha hb, rf_mul, rf_sub (Nat.div_mul_le_self a b)]
  have h := Nat.div_add_mod a b
  rw [Nat.mul_comm] at h
  exact congrArg nI (by omega)

def rf_ok (rc rl ps : Nat) : Prop := 1 ≤ rc ∧ 1 ≤ rl ∧ rc * rl ≤ 4096 ∧ 1 ≤ ps ∧ ps ≤ 8
theorem rf_ok.rc {rc rl ps : Nat} (h : rf_ok rc rl ps) : rc ≤ 4096 := Nat.le_trans (Nat.le_mul_of_pos_right rc h.2.1) h.2.2.1
theorem rf_ok.rl {rc rl ps : Nat} (h : rf_ok rc rl ps) : rl ≤ 4096 := Nat.le_trans (Nat.le_mul_of_pos_left rl h.1) h.2.2.1
theorem rf_ok.lt {rc rl ps y i : Nat} (h : rf_ok rc rl ps) (hy : y < rc) (hi : i < rl) : y * rl + i < rc * rl := by
  have := rf_row rl hy
  omega
theorem rf_ok.k {rc rl ps y i : Nat} (h : rf_ok rc rl ps) (hy : y < rc) (hi : i < rl) : y * rl + i < 4096 := Nat.lt_of_lt_of_le (h.lt hy hi) h.2.2.1

def rf_a (f : Nat → Int32) (rl ps y i : Nat) : Int32 := if i < ps then 0 else f (y * rl + (i - ps))
def rf_b (f : Nat → Int32) (rl y i : Nat) : Int32 := if y = 0 then 0 else f ((y - 1) * rl + i)
def rf_c (f : Nat → Int32) (rl ps y i : Nat) : Int32 := if y = 0 then 0 else if i < ps then 0 else f ((y - 1) * rl + (i - ps))
def rf_z (f : Nat → Int32) (rl : Nat) (y i : Int32) : Int32 := if y < 0 then 0 else if i < 0 then 0 else f (y * nI rl + i).toNatClampNeg
theorem rf_z_0 {f : Nat → Int32} {rl y i : Nat} (hy : y ≤ 4096) (hi : i ≤ 4096) (hk : y * rl + i < 4096) : rf_z f rl (nI y) (nI i) = f (y * rl + i) := by
  unfold rf_z
  rw [if_neg (nI_pos (by omega)), if_neg (nI_pos (by omega)), rf_ix, nI_clamp (by omega)]
theorem rf_z_a {f : Nat → Int32} {rl ps y i : Nat} (hy : y ≤ 4096) (hi : i ≤ 4096) (hp : ps ≤ 8) (hk : y * rl + i < 4096) : rf_z f rl (nI y) (nI i - nI ps) = rf_a f rl ps y i := by
  unfold rf_z rf_a
  rw [if_neg (nI_pos (by omega))]
  by_cases h : i < ps
  · rw [if_pos (rf_neg h (by omega)), if_pos h]
  · rw [rf_sub (by omega), if_neg (nI_pos (by omega)), if_neg h, rf_ix, nI_clamp (by omega)]
theorem rf_z_b {f : Nat → Int32} {rl y i : Nat} (hy : y ≤ 4096) (hi : i ≤ 4096) (hk : y * rl + i < 4096) : rf_z f rl (nI y - 1) (nI i) = rf_b f rl y i := by
  unfold rf_z rf_b
  by_cases h : y = 0
  · subst h
    rw [if_pos (by decide +kernel), if_pos rfl]
  · obtain ⟨z, rfl⟩ : ∃ z, y = z + 1 := ⟨y - 1, by omega⟩
    rw [Nat.add_mul] at hk
    rw [nI_pred, if_neg (nI_pos (by omega)), if_neg (nI_pos (by omega)), if_neg h, rf_ix, nI_clamp (by omega), Nat.add_sub_cancel]
theorem rf_z_c {f : Nat → Int32} {rl ps y i : Nat} (hy : y ≤ 4096) (hi : i ≤ 4096) (hp : ps ≤ 8) (hk : y * rl + i < 4096) : rf_z f rl (nI y - 1) (nI i - nI ps) = rf_c f rl ps y i := by
  unfold rf_z rf_c
  by_cases h : y = 0
  · subst h
    rw [if_pos (by decide +kernel), if_pos rfl]
  · obtain ⟨z, rfl⟩ : ∃ z, y = z + 1 := ⟨y - 1, by omega⟩
    rw [Nat.add_mul] at hk
    rw [nI_pred, if_neg (nI_pos (by omega)), if_neg h]
    by_cases h2 : i < ps
    · rw [if_pos (rf_neg h2 (by omega)), if_pos h2]
    · rw [rf_sub (by omega), if_neg (nI_pos (by omega)), if_neg h2, rf_ix, nI_clamp (by omega), Nat.add_sub_cancel]
theorem rf_in {y rl i : Nat} {Y I : Int32} (hY : ¬ Y < 0 → ∃ z, Y = nI z ∧ z ≤ y) (hI : ¬ I < 0 → ∃ j, I = nI j ∧ j ≤ i) (hk : y * rl + i < 4096) : ¬ Y < 0 → ¬ I < 0 → vp_in (Y * nI rl + I) 4096 := by
  intro h1 h2
  obtain ⟨z, rfl, hz⟩ := hY h1
  obtain ⟨j, rfl, hj⟩ := hI h2
  rw [rf_ix]
  have := Nat.mul_le_mul_right rl hz
  exact vp_in_nI (by omega) (by omega)
theorem rf_in_0 (n : Nat) : ¬ nI n < 0 → ∃ z, nI n = nI z ∧ z ≤ n := fun _ => ⟨n, rfl, Nat.le_refl n⟩
theorem rf_in_1 {n : Nat} (hn : n ≤ 4096) : ¬ nI n - 1 < 0 → ∃ z, nI n - 1 = nI z ∧ z ≤ n := by
  intro h
  rcases Nat.eq_zero_or_pos n with q | q
  · subst q
    exact absurd (by decide +kernel) h
  · obtain ⟨z, rfl⟩ : ∃ z, n = z + 1 := ⟨n - 1, by omega⟩
    exact ⟨z, nI_pred z, by omega⟩
theorem rf_in_p {n ps : Nat} (hp : ps ≤ 8) : ¬ nI n - nI ps < 0 → ∃ z, nI n - nI ps = nI z ∧ z ≤ n := by
  intro h
  rcases Nat.lt_or_ge n ps with q | q
  · exact absurd (rf_neg q (by omega)) h
  · exact ⟨n - ps, rf_sub q, by omega⟩

def rf_abs (x : Int32) : Int32 := if 0 ≤ x then x else 0 - x
def rf_near (a b c : Int32) : Int32 := if rf_abs (a + b - c - a) ≤ rf_abs (a + b - c - b) ∧ rf_abs (a + b - c - a) ≤ rf_abs (a + b - c - c) then a else if rf_abs (a + b - c - b) ≤ rf_abs (a + b - c - c) then b else c
def rf_g (f : Nat → Int32) (rl ps y i q : Nat) : Int32 := if q = 1 then rf_a f rl ps y i else if q = 2 then rf_b f rl y i else if q = 3 then (rf_a f rl ps y i + rf_b f rl y i) / 2 else if q = 4 then rf_near (rf_a f rl ps y i) (rf_b f rl y i) (rf_c f rl ps y i) else 0
def rf_t (f : Nat → Int32) (rl ps y q i : Nat) : Int32 := (f (y * rl + i) - rf_g f rl ps y i q) &&& 255
def rf_m (v : Int32) : Int32 := if v < 128 then v else 256 - v
def rf_s (f : Nat → Int32) (rl ps y q : Nat) : Nat → Int32
  | 0 => 0
  | n + 1 => rf_s f rl ps y q n + rf_m (rf_t f rl ps y q n)
def rf_l (S : Nat → Int32) : Nat → Nat × Int32
  | 0 => (0, S 0)
  | n + 1 => if S (n + 1) < (rf_l S n).2 then (n + 1, S (n + 1)) else rf_l S n
def rf_q (f : Nat → Int32) (rl ps y : Nat) : Nat := (rf_l (fun q => rf_s f rl ps y q rl) 4).1
def rf_U (f : Nat → Int32) (rl ps y q : Nat) : Nat → (Nat → Int32)
  | 0 => f
  | n + 1 => upd (rf_U f rl ps y q n) (y * rl + n) ((rf_U f rl ps y q n (y * rl + n) + rf_g (rf_U f rl ps y q n) rl ps y n q) &&& 255)
def rf_D (f : Nat → Int32) (rl ps F : Nat) : Nat → (Nat → Int32)
  | 0 => f
  | n + 1 => rf_U (rf_D f rl ps F n) rl ps n (F / 5 ^ n % 5) rl
def rf_v (q : Nat → Nat) : Nat → Int32
  | 0 => 1
  | n + 1 => 5 * rf_v q n + nI (q n)
def rf_h (f : Nat → Int32) : Nat → Int32
  | 0 => 1
  | n + 1 => 31 * rf_h f n + f n
def rf_F (a b c : Int32) (k : Nat) : Int32 := ((a * nI k * nI k + b * nI k + c).toUInt32 >>> ((24 : Int32).toUInt32 &&& Int32.toUInt32 31)).toInt32
def rf_p (g v : Nat → Int32) (lo hi k : Nat) : Int32 := if lo ≤ k ∧ k < hi then v k else g k
def rf_tv (f : Nat → Int32) (rl ps y q k : Nat) : Int32 := rf_t f rl ps y q (k - y * rl)
def rf_bv (f : Nat → Int32) (rl ps k : Nat) : Int32 := rf_t f rl ps (k / rl) (rf_q f rl ps (k / rl)) (k % rl)

theorem rf_p_nil (g v : Nat → Int32) (a : Nat) : rf_p g v a a = g := by
  funext k
  unfold rf_p
  rw [if_neg (by omega)]
theorem rf_p_up {g v : Nat → Int32} {lo hi : Nat} (h : lo ≤ hi) {x : Int32} (hx : x = v hi) : upd (rf_p g v lo hi) hi x = rf_p g v lo (hi + 1) := by
  funext k
  unfold upd rf_p
  by_cases hk : k = hi
  · subst hk
    rw [if_pos rfl, if_pos (by omega), hx]
  · rw [if_neg hk]
    by_cases h2 : lo ≤ k ∧ k < hi
    · rw [if_pos h2, if_pos (by omega)]
    · rw [if_neg h2, if_neg (by omega)]
theorem rf_p_dn {g v : Nat → Int32} {lo hi : Nat} (h : lo < hi) {x : Int32} (hx : x = v lo) : upd (rf_p g v (lo + 1) hi) lo x = rf_p g v lo hi := by
  funext k
  unfold upd rf_p
  by_cases hk : k = lo
  · subst hk
    rw [if_pos rfl, if_pos (by omega), hx]
  · rw [if_neg hk]
    by_cases h2 : lo ≤ k ∧ k < hi
    · rw [if_pos h2, if_pos (by omega)]
    · rw [if_neg h2, if_neg (by omega)]
theorem rf_p_in {g v : Nat → Int32} {lo hi k : Nat} (h1 : lo ≤ k) (h2 : k < hi) : rf_p g v lo hi k = v k := if_pos ⟨h1, h2⟩
theorem rf_p_out {g v : Nat → Int32} {lo hi k : Nat} (h : k < lo ∨ hi ≤ k) : rf_p g v lo hi k = g k := if_neg (by omega)
theorem rf_p_over (g v w : Nat → Int32) (lo hi : Nat) : rf_p (rf_p g v lo hi) w lo hi = rf_p g w lo hi := by
  funext k
  unfold rf_p
  by_cases h2 : lo ≤ k ∧ k < hi
  · rw [if_pos h2, if_pos h2]
  · rw [if_neg h2, if_neg h2, if_neg h2]

theorem rf_a_c {f g : Nat → Int32} {rl ps y i : Nat} (hp : 1 ≤ ps) (h : ∀ k, k < y * rl + i → f k = g k) : rf_a f rl ps y i = rf_a g rl ps y i := by
  unfold rf_a
  by_cases h2 : i < ps
  · rw [if_pos h2, if_pos h2]
  · rw [if_neg h2, if_neg h2]
    exact h _ (by omega)
theorem rf_b_c {f g : Nat → Int32} {rl y i : Nat} (hi : i < rl) (h : ∀ k, k < y * rl + i → f k = g k) : rf_b f rl y i = rf_b g rl y i := by
  unfold rf_b
  by_cases h2 : y = 0
  · rw [if_pos h2, if_pos h2]
  · rw [if_neg h2, if_neg h2]
    obtain ⟨z, rfl⟩ : ∃ z, y = z + 1 := ⟨y - 1, by omega⟩
    rw [Nat.add_sub_cancel]
    refine h _ ?_
    rw [Nat.add_mul]
    omega
theorem rf_c_c {f g : Nat → Int32} {rl ps y i : Nat} (hi : i < rl) (h : ∀ k, k < y * rl + i → f k = g k) : rf_c f rl ps y i = rf_c g rl ps y i := by
  unfold rf_c
  by_cases h2 : y = 0
  · rw [if_pos h2, if_pos h2]
  · rw [if_neg h2, if_neg h2]
    by_cases h3 : i < ps
    · rw [if_pos h3, if_pos h3]
    · rw [if_neg h3, if_neg h3]
      obtain ⟨z, rfl⟩ : ∃ z, y = z + 1 := ⟨y - 1, by omega⟩
      rw [Nat.add_sub_cancel]
      refine h _ ?_
      rw [Nat.add_mul]
      omega
theorem rf_g_c {f g : Nat → Int32} {rl ps y i q : Nat} (hp : 1 ≤ ps) (hi : i < rl) (h : ∀ k, k < y * rl + i → f k = g k) : rf_g f rl ps y i q = rf_g g rl ps y i q := by
  unfold rf_g
  rw [rf_a_c hp h, rf_b_c hi h, rf_c_c hi h]
theorem rf_t_c {f g : Nat → Int32} {rl ps y i q : Nat} (hp : 1 ≤ ps) (hi : i < rl) (h : ∀ k, k ≤ y * rl + i → f k = g k) : rf_t f rl ps y q i = rf_t g rl ps y q i := by
  unfold rf_t
  rw [rf_g_c hp hi (fun k hk => h k (by omega)), h _ (Nat.le_refl _)]
theorem rf_s_c {f g : Nat → Int32} {rl ps y q : Nat} (hp : 1 ≤ ps) (h : ∀ k, k < y * rl + rl → f k = g k) : ∀ n, n ≤ rl → rf_s f rl ps y q n = rf_s g rl ps y q n := by
  intro n
  induction n with
  | zero => intro _; rfl
  | succ n ih =>
    intro hn
    show rf_s f rl ps y q n + rf_m (rf_t f rl ps y q n) = rf_s g rl ps y q n + rf_m (rf_t g rl ps y q n)
    rw [ih (by omega), rf_t_c hp (by omega) (fun k hk => h k (by omega))]
theorem rf_q_c {f g : Nat → Int32} {rl ps y : Nat} (hp : 1 ≤ ps) (h : ∀ k, k < y * rl + rl → f k = g k) : rf_q f rl ps y = rf_q g rl ps y := by
  unfold rf_q
  rw [show (fun q => rf_s f rl ps y q rl) = (fun q => rf_s g rl ps y q rl) from funext fun q => rf_s_c hp h rl (Nat.le_refl _)]
theorem rf_U_c {f g : Nat → Int32} {rl ps y q N : Nat} (hp : 1 ≤ ps) (hN : y * rl + rl ≤ N) (h : ∀ k, k < N → f k = g k) : ∀ n, n ≤ rl → ∀ k, k < N → rf_U f rl ps y q n k = rf_U g rl ps y q n k := by
  intro n
  induction n with
  | zero => intro _; exact h
  | succ n ih =>
    intro hn k hk
    have ih := ih (by omega)
    show upd (rf_U f rl ps y q n) (y * rl + n) ((rf_U f rl ps y q n (y * rl + n) + rf_g (rf_U f rl ps y q n) rl ps y n q) &&& 255) k = upd (rf_U g rl ps y q n) (y * rl + n) ((rf_U g rl ps y q n (y * rl + n) + rf_g (rf_U g rl ps y q n) rl ps y n q) &&& 255) k
    unfold upd
    rw [ih _ (by omega), rf_g_c hp (by omega) (fun k hk => ih k (by omega)), ih k hk]
theorem rf_D_c {f g : Nat → Int32} {rc rl ps F : Nat} (hp : 1 ≤ ps) (h : ∀ k, k < rc * rl → f k = g k) : ∀ n, n ≤ rc → ∀ k, k < rc * rl → rf_D f rl ps F n k = rf_D g rl ps F n k := by
  intro n
  induction n with
  | zero => intro _; exact h
  | succ n ih =>
    intro hn
    exact rf_U_c hp (rf_row rl (by omega)) (ih (by omega)) rl (Nat.le_refl _)
theorem rf_h_c {f g : Nat → Int32} {N : Nat} (h : ∀ k, k < N → f k = g k) : ∀ n, n ≤ N → rf_h f n = rf_h g n := by
  intro n
  induction n with
  | zero => intro _; rfl
  | succ n ih =>
    intro hn
    show 31 * rf_h f n + f n = 31 * rf_h g n + g n
    rw [ih (by omega), h n (by omega)]
theorem rf_v_c {p q : Nat → Nat} {N : Nat} (h : ∀ k, k < N → p k = q k) : ∀ n, n ≤ N → rf_v p n = rf_v q n := by
  intro n
  induction n with
  | zero => intro _; rfl
  | succ n ih =>
    intro hn
    show 5 * rf_v p n + nI (p n) = 5 * rf_v q n + nI (q n)
    rw [ih (by omega), h n (by omega)]
theorem rf_l_lt {S : Nat → Int32} {n : Nat} (h : S (n + 1) < (rf_l S n).2) : rf_l S (n + 1) = (n + 1, S (n + 1)) := by
  show (if S (n + 1) < (rf_l S n).2 then (n + 1, S (n + 1)) else rf_l S n) = _
  exact if_pos h
theorem rf_l_ge {S : Nat → Int32} {n : Nat} (h : ¬ S (n + 1) < (rf_l S n).2) : rf_l S (n + 1) = rf_l S n := by
  show (if S (n + 1) < (rf_l S n).2 then (n + 1, S (n + 1)) else rf_l S n) = _
  exact if_neg h
theorem rf_l_le (S : Nat → Int32) : ∀ n, (rf_l S n).1 ≤ n := by
  intro n
  induction n with
  | zero => exact Nat.le_refl 0
  | succ n ih =>
    by_cases h : S (n + 1) < (rf_l S n).2
    · rw [rf_l_lt h]; exact Nat.le_refl _
    · rw [rf_l_ge h]; exact Nat.le_succ_of_le ih
theorem rf_q_le (f : Nat → Int32) (rl ps y : Nat) : rf_q f rl ps y ≤ 4 := rf_l_le _ 4
theorem rf_dv {rl y i : Nat} (h : i < rl) : (y * rl + i) / rl = y ∧ (y * rl + i) % rl = i := by
  constructor
  · refine Nat.div_eq_of_lt_le (by omega) ?_
    rw [Nat.add_mul, Nat.one_mul]
    omega
  · rw [Nat.add_comm, Nat.add_mul_mod_self_right, Nat.mod_eq_of_lt h]
theorem rf_bv_at {f : Nat → Int32} {rl ps y i : Nat} (h : i < rl) : rf_bv f rl ps (y * rl + i) = rf_t f rl ps y (rf_q f rl ps y) i := by
  unfold rf_bv
  rw [(rf_dv h).1, (rf_dv h).2]
theorem rf_kd {rc rl k : Nat} (h : k < rc * rl) : ∃ y i, y < rc ∧ i < rl ∧ k = y * rl + i := by
  rcases Nat.eq_zero_or_pos rl with q | q
  · subst q; omega
  · refine ⟨k / rl, k % rl, Nat.div_lt_of_lt_mul (by rw [Nat.mul_comm]; exact h), Nat.mod_lt _ q, ?_⟩
    have := Nat.div_add_mod k rl
    rw [Nat.mul_comm] at this
    exact this.symm
theorem rf_bv_c {f g : Nat → Int32} {rc rl ps : Nat} (hp : 1 ≤ ps) (h : ∀ k, k < rc * rl → f k = g k) : ∀ k, k < rc * rl → rf_bv f rl ps k = rf_bv g rl ps k := by
  intro k hk
  obtain ⟨y, i, hy, hi, rfl⟩ := rf_kd hk
  have hr := rf_row rl hy
  rw [rf_bv_at hi, rf_bv_at hi, rf_q_c hp (fun k hk => h k (by omega)), rf_t_c hp hi (fun k hk => h k (by omega))]
theorem rf_best_dn {f g : Nat → Int32} {rc rl ps j : Nat} (hp : 1 ≤ ps) (hj : j < rc) (hg : g = rf_p f (rf_bv f rl ps) ((j + 1) * rl) (rc * rl)) : rf_p g (rf_tv g rl ps j (rf_q g rl ps j)) (j * rl) (j * rl + rl) = rf_p f (rf_bv f rl ps) (j * rl) (rc * rl) := by
  have hr := rf_row rl hj
  have hs : (j + 1) * rl = j * rl + rl := by rw [Nat.add_mul, Nat.one_mul]
  have hlow : ∀ k, k < j * rl + rl → g k = f k := fun k hk => by rw [hg, rf_p_out (by omega)]
  funext k
  by_cases h1 : j * rl ≤ k ∧ k < j * rl + rl
  · obtain ⟨i, rfl⟩ : ∃ i, k = j * rl + i := ⟨k - j * rl, by omega⟩
    rw [rf_p_in (by omega) (by omega), rf_p_in (by omega) (by omega), rf_bv_at (by omega)]
    unfold rf_tv
    rw [rf_q_c hp hlow, Nat.add_sub_cancel_left, rf_t_c hp (by omega) (fun k hk => hlow k (by omega))]
  · rw [rf_p_out (by omega), hg]
    by_cases h2 : k < j * rl
    · rw [rf_p_out (by omega), rf_p_out (by omega)]
    · by_cases h3 : k < rc * rl
      · rw [rf_p_in (by omega) h3, rf_p_in (by omega) h3]
      · rw [rf_p_out (by omega), rf_p_out (by omega)]
theorem rf_best_up (f t : Nat → Int32) (rl ps y : Nat) : rf_p (rf_p t (rf_bv f rl ps) 0 (y * rl)) (rf_tv f rl ps y (rf_q f rl ps y)) (y * rl) (y * rl + rl) = rf_p t (rf_bv f rl ps) 0 ((y + 1) * rl) := by
  have hs : (y + 1) * rl = y * rl + rl := by rw [Nat.add_mul, Nat.one_mul]
  rw [hs]
  funext k
  by_cases h1 : y * rl ≤ k ∧ k < y * rl + rl
  · obtain ⟨i, rfl⟩ : ∃ i, k = y * rl + i := ⟨k - y * rl, by omega⟩
    rw [rf_p_in (by omega) (by omega), rf_p_in (by omega) (by omega), rf_bv_at (by omega)]
    unfold rf_tv
    rw [Nat.add_sub_cancel_left]
  · rw [rf_p_out (by omega)]
    by_cases h2 : k < y * rl
    · rw [rf_p_in (by omega) h2, rf_p_in (by omega) (by omega)]
    · rw [rf_p_out (by omega), rf_p_out (by omega)]
end
section
def bt (x : Int32) (i : Nat) : Bool := x.toBitVec.getLsbD i
theorem b_ext {x y : Int32} (h : ∀ i, i < 32 → bt x i = bt y i) : x = y := Int32.toBitVec_inj.mp (BitVec.eq_of_getLsbD_eq (fun i hi => h i hi))
theorem b_and (x y : Int32) (i : Nat) : bt (x &&& y) i = (bt x i && bt y i) := by unfold bt; rw [Int32.toBitVec_and, BitVec.getLsbD_and]
theorem b_big {x : Int32} {i : Nat} (h : 32 ≤ i) : bt x i = false := BitVec.getLsbD_of_ge _ _ h
theorem b_255 (i : Nat) : bt 255 i = decide (i < 8) := by
  rcases Nat.lt_or_ge i 32 with h | h
  · exact (by decide +kernel : ∀ i, i < 32 → bt 255 i = decide (i < 8)) i h
  · rw [b_big h, decide_eq_false (by omega)]
theorem s_u : ∀ n, n < 32 → (((nI n).toUInt32 &&& Int32.toUInt32 31).toBitVec % 32).toNat = n := by decide +kernel
theorem b_ushr (n : Nat) (hn : n < 32) (x : Int32) (i : Nat) : bt ((x.toUInt32 >>> ((nI n).toUInt32 &&& Int32.toUInt32 31)).toInt32) i = bt x (n + i) := by
  show (x.toUInt32 >>> ((nI n).toUInt32 &&& Int32.toUInt32 31)).toBitVec.getLsbD i = x.toUInt32.toBitVec.getLsbD (n + i)
  rw [UInt32.toBitVec_shiftRight]
  show (x.toUInt32.toBitVec >>> (((nI n).toUInt32 &&& Int32.toUInt32 31).toBitVec % 32).toNat).getLsbD i = _
  rw [s_u n hn, BitVec.getLsbD_ushiftRight]
theorem bp_b (x : Int32) : x.toInt8.toInt32 &&& 255 = x &&& 255 := by
  apply Int32.toBitVec_inj.mp
  rw [Int32.toBitVec_and, Int32.toBitVec_and, Int8.toBitVec_toInt32, Int32.toBitVec_toInt8]
  apply BitVec.eq_of_getLsbD_eq
  intro i hi
  rw [BitVec.getLsbD_and, BitVec.getLsbD_and]
  have hm : ∀ i < 32, 8 ≤ i → (255 : Int32).toBitVec.getLsbD i = false := by decide
  rcases Nat.lt_or_ge i 8 with z | z
  · rw [BitVec.getLsbD_signExtend, BitVec.getLsbD_signExtend, if_pos z, if_pos hi]
    simp only [z, hi, decide_true, Bool.true_and]
  · rw [hm i hi z]; simp
theorem rf_abs8_n : ∀ n, n < 256 → rf_abs (Int8.ofNat n).toInt32 = rf_m ((Int8.ofNat n).toInt32 &&& 255) := by decide +kernel
theorem rf_abs8 (x : Int32) : rf_abs x.toInt8.toInt32 = rf_m (x &&& 255) := by
  have e : x.toInt8 = Int8.ofNat x.toInt8.toBitVec.toNat := Int8.toBitVec_inj.1 (by
    show x.toInt8.toBitVec = BitVec.ofNat 8 x.toInt8.toBitVec.toNat
    simp)
  have h := rf_abs8_n x.toInt8.toBitVec.toNat (by have := x.toInt8.toBitVec.isLt; omega)
  rw [← e, bp_b] at h
  exact h
theorem rf_m255 (x : Int32) : x &&& 255 &&& 255 = x &&& 255 := by rw [Int32.and_assoc, Int32.and_self]
theorem rf_F_m (a b c : Int32) (k : Nat) : rf_F a b c k &&& 255 = rf_F a b c k := by
  apply b_ext
  intro i hi
  rw [b_and, b_255]
  unfold rf_F
  rw [show (24 : Int32) = nI 24 from rfl, b_ushr 24 (by decide)]
  by_cases h : i < 8
  · simp [h]
  · rw [b_big (by omega)]; simp
theorem rf_U_m {f : Nat → Int32} {rl ps y q N : Nat} (h : ∀ k, k < N → f k &&& 255 = f k) : ∀ n, ∀ k, k < N → rf_U f rl ps y q n k &&& 255 = rf_U f rl ps y q n k := by
  intro n
  induction n with
  | zero => exact h
  | succ n ih =>
    intro k hk
    show upd (rf_U f rl ps y q n) (y * rl + n) ((rf_U f rl ps y q n (y * rl + n) + rf_g (rf_U f rl ps y q n) rl ps y n q) &&& 255) k &&& 255 = upd (rf_U f rl ps y q n) (y * rl + n) ((rf_U f rl ps y q n (y * rl + n) + rf_g (rf_U f rl ps y q n) rl ps y n q) &&& 255) k
    unfold upd
    by_cases h2 : k = y * rl + n
    · rw [if_pos h2, rf_m255]
    · rw [if_neg h2]; exact ih k hk
theorem rf_D_m {f : Nat → Int32} {rl ps F N : Nat} (h : ∀ k, k < N → f k &&& 255 = f k) : ∀ n, ∀ k, k < N → rf_D f rl ps F n k &&& 255 = rf_D f rl ps F n k := by
  intro n
  induction n with
  | zero => exact h
  | succ n ih => exact rf_U_m ih rl
theorem rf_g_0 (f : Nat → Int32) (rl ps y i : Nat) : rf_g f rl ps y i 0 = 0 := by simp [rf_g]
theorem rf_U_0 {f : Nat → Int32} {rl ps y N : Nat} (hN : y * rl + rl ≤ N) (h : ∀ k, k < N → f k &&& 255 = f k) : ∀ n, n ≤ rl → ∀ k, k < N → rf_U f rl ps y 0 n k = f k := by
  intro n
  induction n with
  | zero => intro _ k _; rfl
  | succ n ih =>
    intro hn k hk
    have ih := ih (by omega)
    show upd (rf_U f rl ps y 0 n) (y * rl + n) ((rf_U f rl ps y 0 n (y * rl + n) + rf_g (rf_U f rl ps y 0 n) rl ps y n 0) &&& 255) k = f k
    unfold upd
    by_cases h2 : k = y * rl + n
    · rw [if_pos h2, rf_g_0, Int32.add_zero, ih _ (by omega), h _ (by omega), h2]
    · rw [if_neg h2]; exact ih k hk
theorem rf_D_8 {f : Nat → Int32} {rc rl ps F : Nat} (hF : F < 390625) (h : ∀ k, k < rc * rl → f k &&& 255 = f k) : ∀ d, 8 + d ≤ rc → ∀ k, k < rc * rl → rf_D f rl ps F (8 + d) k = rf_D f rl ps F 8 k := by
  intro d
  induction d with
  | zero => intro _ k _; rfl
  | succ d ih =>
    intro hn k hk
    have h5 : F / 5 ^ (8 + d) % 5 = 0 := by
      have h6 : (5 : Nat) ^ 8 ≤ 5 ^ (8 + d) := Nat.pow_le_pow_right (by decide) (by omega)
      rw [Nat.div_eq_of_lt (Nat.lt_of_lt_of_le (by omega) h6)]
    show rf_U (rf_D f rl ps F (8 + d)) rl ps (8 + d) (F / 5 ^ (8 + d) % 5) rl k = _
    rw [h5, rf_U_0 (rf_row rl (by omega)) (rf_D_m h (8 + d)) rl (Nat.le_refl _) k hk]
    exact ih (by omega) k hk
theorem rf_undo {f g : Nat → Int32} {rc rl ps F : Nat} (hp : 1 ≤ ps) (hF : F < 390625) (h : ∀ k, k < rc * rl → f k = g k) (hm : ∀ k, k < rc * rl → g k &&& 255 = g k) : ∀ k, k < rc * rl → rf_D f rl ps F (min rc 8) k = rf_D g rl ps F rc k := by
  intro k hk
  rw [rf_D_c hp h (min rc 8) (Nat.min_le_left _ _) k hk]
  rcases Nat.le_total rc 8 with q | q
  · rw [Nat.min_eq_left q]
  · rw [Nat.min_eq_right q]
    obtain ⟨d, rfl⟩ : ∃ d, rc = 8 + d := ⟨rc - 8, by omega⟩
    exact (rf_D_8 hF hm d (Nat.le_refl _) k hk).symm
theorem rf_v_step (V Q a w : Int32) : a + w * (5 * V + Q) = (a + Q * w) + (w * 5) * V := by grind

def rf_n (s r : Nat) : Nat → Nat
  | 0 => 0
  | n + 1 => rf_n s r n + (if n % s = r then 1 else 0)
theorem rf_n8 {r : Nat} (hr : r < 8) : ∀ n, rf_n 8 r n = (n + (8 - 1 - r)) / 8 := by
  intro n
  induction n with
  | zero => show 0 = _; omega
  | succ n ih =>
    show rf_n 8 r n + (if n % 8 = r then 1 else 0) = _
    rw [ih]
    by_cases h : n % 8 = r
    · rw [if_pos h]; omega
    · rw [if_neg h]; omega
theorem rf_n4 {r : Nat} (hr : r < 4) : ∀ n, rf_n 4 r n = (n + (4 - 1 - r)) / 4 := by
  intro n
  induction n with
  | zero => show 0 = _; omega
  | succ n ih =>
    show rf_n 4 r n + (if n % 4 = r then 1 else 0) = _
    rw [ih]
    by_cases h : n % 4 = r
    · rw [if_pos h]; omega
    · rw [if_neg h]; omega
theorem rf_n2 {r : Nat} (hr : r < 2) : ∀ n, rf_n 2 r n = (n + (2 - 1 - r)) / 2 := by
  intro n
  induction n with
  | zero => show 0 = _; omega
  | succ n ih =>
    show rf_n 2 r n + (if n % 2 = r then 1 else 0) = _
    rw [ih]
    by_cases h : n % 2 = r
    · rw [if_pos h]; omega
    · rw [if_neg h]; omega
theorem rf_n1 {r : Nat} (hr : r < 1) : ∀ n, rf_n 1 r n = (n + (1 - 1 - r)) / 1 := by
  intro n
  induction n with
  | zero => show 0 = _; omega
  | succ n ih =>
    show rf_n 1 r n + (if n % 1 = r then 1 else 0) = _
    rw [ih]
    by_cases h : n % 1 = r
    · rw [if_pos h]; omega
    · rw [if_neg h]; omega
def rf_sx (p : Nat) : Nat := match p with
  | 0 => 8
  | 1 => 8
  | 2 => 4
  | 3 => 4
  | 4 => 2
  | 5 => 2
  | _ => 1
def rf_sy (p : Nat) : Nat := match p with
  | 0 => 8
  | 1 => 8
  | 2 => 8
  | 3 => 4
  | 4 => 4
  | _ => 2
def rf_fx (p : Nat) : Nat := match p with
  | 1 => 4
  | 3 => 2
  | 5 => 1
  | _ => 0
def rf_fy (p : Nat) : Nat := match p with
  | 2 => 4
  | 4 => 2
  | 6 => 1
  | _ => 0
theorem rf_7 {p : Nat} (h : p ≤ 6) : p = 0 ∨ p = 1 ∨ p = 2 ∨ p = 3 ∨ p = 4 ∨ p = 5 ∨ p = 6 := by omega
theorem rf_n_x {p : Nat} (hp : p ≤ 6) (n : Nat) : rf_n (rf_sx p) (rf_fx p) n = (n + (rf_sx p - 1 - rf_fx p)) / rf_sx p := by
  rcases rf_7 hp with rfl | rfl | rfl | rfl | rfl | rfl | rfl
  · exact rf_n8 (by decide) n
  · exact rf_n8 (by decide) n
  · exact rf_n4 (by decide) n
  · exact rf_n4 (by decide) n
  · exact rf_n2 (by decide) n
  · exact rf_n2 (by decide) n
  · exact rf_n1 (by decide) n
theorem rf_n_y {p : Nat} (hp : p ≤ 6) (n : Nat) : rf_n (rf_sy p) (rf_fy p) n = (n + (rf_sy p - 1 - rf_fy p)) / rf_sy p := by
  rcases rf_7 hp with rfl | rfl | rfl | rfl | rfl | rfl | rfl
  · exact rf_n8 (by decide) n
  · exact rf_n8 (by decide) n
  · exact rf_n8 (by decide) n
  · exact rf_n4 (by decide) n
  · exact rf_n4 (by decide) n
  · exact rf_n2 (by decide) n
  · exact rf_n2 (by decide) n
theorem rf_n_le (s r n : Nat) : rf_n s r n ≤ n := by
  induction n with
  | zero => exact Nat.le_refl 0
  | succ n ih =>
    show rf_n s r n + (if n % s = r then 1 else 0) ≤ _
    by_cases h : n % s = r
    · rw [if_pos h]; omega
    · rw [if_neg h]; omega
theorem rf_n_s {s r n : Nat} (h : n % s = r) : rf_n s r (n + 1) = rf_n s r n + 1 := by
  show rf_n s r n + (if n % s = r then 1 else 0) = _
  rw [if_pos h]
theorem rf_n_f {s r n : Nat} (h : ¬ n % s = r) : rf_n s r (n + 1) = rf_n s r n := by
  show rf_n s r n + (if n % s = r then 1 else 0) = _
  rw [if_neg h, Nat.add_zero]
theorem rf_pa {w r s : Nat} (hw : w ≤ 100000) (hr : r < s) (hs : s ≤ 8) : (nI w - nI r + nI s - 1) / nI s = nI ((w + (s - 1 - r)) / s) := by
  have h1 : nI (w + (s - 1 - r)) + (nI r + 1) = nI w + nI s := by
    rw [nI_1, nI_add, nI_add]
    congr 1
    omega
  have e : nI w - nI r + nI s - 1 = nI (w + (s - 1 - r)) := by grind
  rw [e, rf_div (by omega) (by omega)]
def rf_at (p x y : Nat) : Prop := x % rf_sx p = rf_fx p ∧ y % rf_sy p = rf_fy p
theorem rf_tot {x y : Nat} (h : ∀ p, p < 6 → ¬ rf_at p x y) : rf_at 6 x y := by
  have h0 : ¬ (x % 8 = 0 ∧ y % 8 = 0) := h 0 (by decide)
  have h1 : ¬ (x % 8 = 4 ∧ y % 8 = 0) := h 1 (by decide)
  have h2 : ¬ (x % 4 = 0 ∧ y % 8 = 4) := h 2 (by decide)
  have h3 : ¬ (x % 4 = 2 ∧ y % 4 = 0) := h 3 (by decide)
  have h4 : ¬ (x % 2 = 0 ∧ y % 4 = 2) := h 4 (by decide)
  have h5 : ¬ (x % 2 = 1 ∧ y % 2 = 0) := h 5 (by decide)
  show x % 1 = 0 ∧ y % 2 = 1
  omega
def rf_po (x y k : Nat) : Prop := k ≤ 6 ∧ rf_at k x y ∧ ∀ p, p < k → ¬ rf_at p x y
theorem rf_po_u {x y j k : Nat} (hj : rf_po x y j) (hk : rf_po x y k) : j = k := by
  rcases Nat.lt_trichotomy j k with h | h | h
  · exact absurd hj.2.1 (hk.2.2 j h)
  · exact h
  · exact absurd hk.2.1 (hj.2.2 k h)
end
section
def TY1 : u_T := fun k => match k with
  | 0 => ("RowFiltersModel", "failed", "I", false)
  | 1 => ("RowFiltersModel", "height", "I", false)
  | 2 => ("RowFiltersModel", "width", "I", false)
  | 3 => ("RowFiltersModel", "step", "I", false)
  | 4 => ("RowFiltersModel", "bytes", "[I", true)
  | _ => ("RowFiltersModel", "told", "[I", true)
def tyY1 : Nat → FieldType := fun k => match k with
  | 0 => .int
  | 1 => .int
  | 2 => .int
  | 3 => .int
  | 4 => .array .int
  | _ => .array .int
abbrev wsY10 : List Cond := u_ws RX1 TY1 6
theorem nmY1 : ∀ a, a < 6 → ∀ b, b < 6 → a ≠ b → (TY1 a).2.1 ≠ (TY1 b).2.1 := by decide +kernel
theorem tyY1_ok : ∀ k, k < 6 → parseFieldDescriptor (TY1 k).2.2.1 = some (tyY1 k) := by decide +kernel
abbrev cY1_init : ByteArray := prog_3_method_1_code
def yY1_init : MethodName := ⟨RX1, "<init>", "()V"⟩
abbrev cY1_thrown : ByteArray := prog_3_method_2_code
def yY1_thrown : MethodName := ⟨RX1, "thrown", "()I"⟩
abbrev cY1_open : ByteArray := prog_3_method_4_code
def yY1_open : MethodName := ⟨RX1, "open", "(III)V"⟩
abbrev cY1_set : ByteArray := prog_3_method_6_code
def yY1_set : MethodName := ⟨RX1, "set", "(III)I"⟩
abbrev cY1_out : ByteArray := prog_3_method_5_code
def yY1_out : MethodName := ⟨RX1, "out", "(II)Z"⟩
abbrev cY1_fail : ByteArray := prog_3_method_3_code
def yY1_fail : MethodName := ⟨RX1, "fail", "(I)I"⟩
abbrev cY1_get : ByteArray := prog_3_method_7_code
def yY1_get : MethodName := ⟨RX1, "get", "(II)I"⟩
abbrev cY1_fill : ByteArray := prog_3_method_8_code
def yY1_fill : MethodName := ⟨RX1, "fill", "(III)V"⟩
abbrev cY1_filter : ByteArray := prog_3_method_14_code
def yY1_filter : MethodName := ⟨RX1, "filter", "(II)V"⟩
abbrev cY1_bad : ByteArray := prog_3_method_13_code
def yY1_bad : MethodName := ⟨RX1, "bad", "(II)Z"⟩
abbrev cY1_tell : ByteArray := prog_3_method_11_code
def yY1_tell : MethodName := ⟨RX1, "tell", "(II)I"⟩
abbrev cY1_guess : ByteArray := prog_3_method_10_code
def yY1_guess : MethodName := ⟨RX1, "guess", "(III)I"⟩
abbrev cY1_at : ByteArray := prog_3_method_9_code
def yY1_at : MethodName := ⟨RX1, "at", "(II)I"⟩
abbrev cY1_plain : ByteArray := prog_3_method_15_code
def yY1_plain : MethodName := ⟨RX1, "plain", "(II)V"⟩
abbrev cY1_untell : ByteArray := prog_3_method_12_code
def yY1_untell : MethodName := ⟨RX1, "untell", "(II)V"⟩
abbrev cY1_best : ByteArray := prog_3_method_16_code
def yY1_best : MethodName := ⟨RX1, "best", "()I"⟩
abbrev cY1_undo : ByteArray := prog_3_method_17_code
def yY1_undo : MethodName := ⟨RX1, "undo", "(I)V"⟩
abbrev cY1_hash : ByteArray := prog_3_method_18_code
def yY1_hash : MethodName := ⟨RX1, "hash", "()I"⟩
abbrev cY1_pass : ByteArray := prog_3_method_19_code
def yY1_pass : MethodName := ⟨RX1, "pass", "(IIIZ)I"⟩
abbrev cY1_column : ByteArray := prog_3_method_20_code
def yY1_column : MethodName := ⟨RX1, "column", "(II)Z"⟩
abbrev cY1_line : ByteArray := prog_3_method_21_code
def yY1_line : MethodName := ⟨RX1, "line", "(II)Z"⟩
abbrev cY1_passOf : ByteArray := prog_3_method_22_code
def yY1_passOf : MethodName := ⟨RX1, "passOf", "(II)I"⟩
def wsY1_init : List Cond := .code yY1_init cY1_init 1 none :: ([.code objectInit ⟨#[0xb1]⟩ 1 none, .methodLink RX1 1 objectInit, .instanceMethod objectInit, .fieldLink RX1 7 "RowFiltersModel" "height" "I", .fieldLink RX1 13 "RowFiltersModel" "width" "I", .fieldLink RX1 16 "RowFiltersModel" "step" "I", .arrayClass .int, .fieldLink RX1 19 "RowFiltersModel" "bytes" "[I", .fieldLink RX1 23 "RowFiltersModel" "told" "[I"] ++ wsY10)
def wsY1_thrown : List Cond := .code yY1_thrown cY1_thrown 1 (some .int) :: ([.fieldLink RX1 26 "RowFiltersModel" "failed" "I"] ++ wsY10)
def wsY1_open : List Cond := .code yY1_open cY1_open 5 none :: ([.fieldLink RX1 26 "RowFiltersModel" "failed" "I", .fieldLink RX1 7 "RowFiltersModel" "height" "I", .fieldLink RX1 13 "RowFiltersModel" "width" "I", .fieldLink RX1 16 "RowFiltersModel" "step" "I", .fieldLink RX1 19 "RowFiltersModel" "bytes" "[I"] ++ wsY10)
def wsY1_out : List Cond := .code yY1_out cY1_out 3 (some .boolean) :: ([.fieldLink RX1 7 "RowFiltersModel" "height" "I", .fieldLink RX1 13 "RowFiltersModel" "width" "I"] ++ wsY10)
def wsY1_fail : List Cond := .code yY1_fail cY1_fail 2 (some .int) :: ([.fieldLink RX1 26 "RowFiltersModel" "failed" "I"] ++ wsY10)
def wsY1_set : List Cond := .code yY1_set cY1_set 5 (some .int) :: ([.code yY1_out cY1_out 3 (some .boolean), .code yY1_fail cY1_fail 2 (some .int), .fieldLink RX1 26 "RowFiltersModel" "failed" "I", .methodLink RX1 29 yY1_out, .instanceMethod yY1_out, .selects RX1 yY1_out yY1_out, .initialized RX1, .methodLink RX1 33 yY1_fail, .instanceMethod yY1_fail, .selects RX1 yY1_fail yY1_fail, .fieldLink RX1 19 "RowFiltersModel" "bytes" "[I", .fieldLink RX1 13 "RowFiltersModel" "width" "I", .fieldLink RX1 7 "RowFiltersModel" "height" "I"] ++ wsY10)
def wsY1_get : List Cond := .code yY1_get cY1_get 3 (some .int) :: ([.code yY1_out cY1_out 3 (some .boolean), .code yY1_fail cY1_fail 2 (some .int), .fieldLink RX1 26 "RowFiltersModel" "failed" "I", .methodLink RX1 29 yY1_out, .instanceMethod yY1_out, .selects RX1 yY1_out yY1_out, .initialized RX1, .methodLink RX1 33 yY1_fail, .instanceMethod yY1_fail, .selects RX1 yY1_fail yY1_fail, .fieldLink RX1 19 "RowFiltersModel" "bytes" "[I", .fieldLink RX1 13 "RowFiltersModel" "width" "I", .fieldLink RX1 7 "RowFiltersModel" "height" "I"] ++ wsY10)
def wsY1_fill : List Cond := .code yY1_fill cY1_fill 5 none :: ([.fieldLink RX1 26 "RowFiltersModel" "failed" "I", .fieldLink RX1 7 "RowFiltersModel" "height" "I", .fieldLink RX1 13 "RowFiltersModel" "width" "I", .fieldLink RX1 19 "RowFiltersModel" "bytes" "[I"] ++ wsY10)
def wsY1_bad : List Cond := .code yY1_bad cY1_bad 3 (some .boolean) :: ([.fieldLink RX1 7 "RowFiltersModel" "height" "I"] ++ wsY10)
def wsY1_at : List Cond := .code yY1_at cY1_at 3 (some .int) :: ([.fieldLink RX1 19 "RowFiltersModel" "bytes" "[I", .fieldLink RX1 13 "RowFiltersModel" "width" "I"] ++ wsY10)
def wsY1_guess : List Cond := .code yY1_guess cY1_guess 11 (some .int) :: ([.code Lib.Math.abs.name Lib.Math.abs.code 1 (some .int), .code yY1_at cY1_at 3 (some .int), .fieldLink RX1 16 "RowFiltersModel" "step" "I", .methodLink RX1 37 yY1_at, .instanceMethod yY1_at, .selects RX1 yY1_at yY1_at, .initialized RX1, .methodLink RX1 41 Lib.Math.abs.name, .static Lib.Math.abs.name, .initialized "java/lang/Math", .fieldLink RX1 19 "RowFiltersModel" "bytes" "[I", .fieldLink RX1 13 "RowFiltersModel" "width" "I"] ++ wsY10)
def wsY1_tell : List Cond := .code yY1_tell cY1_tell 6 (some .int) :: ([.code yY1_guess cY1_guess 11 (some .int), .code Lib.Math.abs.name Lib.Math.abs.code 1 (some .int), .code yY1_at cY1_at 3 (some .int), .fieldLink RX1 13 "RowFiltersModel" "width" "I", .fieldLink RX1 19 "RowFiltersModel" "bytes" "[I", .methodLink RX1 46 yY1_guess, .instanceMethod yY1_guess, .selects RX1 yY1_guess yY1_guess, .initialized RX1, .fieldLink RX1 23 "RowFiltersModel" "told" "[I", .fieldLink RX1 16 "RowFiltersModel" "step" "I", .methodLink RX1 37 yY1_at, .instanceMethod yY1_at, .selects RX1 yY1_at yY1_at, .methodLink RX1 41 Lib.Math.abs.name, .static Lib.Math.abs.name, .initialized "java/lang/Math"] ++ wsY10)
def wsY1_filter : List Cond := .code yY1_filter cY1_filter 5 none :: ([.code yY1_bad cY1_bad 3 (some .boolean), .code yY1_tell cY1_tell 6 (some .int), .code yY1_guess cY1_guess 11 (some .int), .code Lib.Math.abs.name Lib.Math.abs.code 1 (some .int), .code yY1_at cY1_at 3 (some .int), .fieldLink RX1 26 "RowFiltersModel" "failed" "I", .methodLink RX1 50 yY1_bad, .instanceMethod yY1_bad, .selects RX1 yY1_bad yY1_bad, .initialized RX1, .methodLink RX1 53 yY1_tell, .instanceMethod yY1_tell, .selects RX1 yY1_tell yY1_tell, .fieldLink RX1 13 "RowFiltersModel" "width" "I", .fieldLink RX1 19 "RowFiltersModel" "bytes" "[I", .fieldLink RX1 23 "RowFiltersModel" "told" "[I", .fieldLink RX1 7 "RowFiltersModel" "height" "I", .methodLink RX1 46 yY1_guess, .instanceMethod yY1_guess, .selects RX1 yY1_guess yY1_guess, .fieldLink RX1 16 "RowFiltersModel" "step" "I", .methodLink RX1 37 yY1_at, .instanceMethod yY1_at, .selects RX1 yY1_at yY1_at, .methodLink RX1 41 Lib.Math.abs.name, .static Lib.Math.abs.name, .initialized "java/lang/Math"] ++ wsY10)
def wsY1_untell : List Cond := .code yY1_untell cY1_untell 4 none :: ([.code yY1_guess cY1_guess 11 (some .int), .code Lib.Math.abs.name Lib.Math.abs.code 1 (some .int), .code yY1_at cY1_at 3 (some .int), .fieldLink RX1 13 "RowFiltersModel" "width" "I", .fieldLink RX1 19 "RowFiltersModel" "bytes" "[I", .methodLink RX1 46 yY1_guess, .instanceMethod yY1_guess, .selects RX1 yY1_guess yY1_guess, .initialized RX1, .fieldLink RX1 16 "RowFiltersModel" "step" "I", .methodLink RX1 37 yY1_at, .instanceMethod yY1_at, .selects RX1 yY1_at yY1_at, .methodLink RX1 41 Lib.Math.abs.name, .static Lib.Math.abs.name, .initialized "java/lang/Math"] ++ wsY10)
def wsY1_plain : List Cond := .code yY1_plain cY1_plain 3 none :: ([.code yY1_bad cY1_bad 3 (some .boolean), .code yY1_untell cY1_untell 4 none, .code yY1_guess cY1_guess 11 (some .int), .code Lib.Math.abs.name Lib.Math.abs.code 1 (some .int), .code yY1_at cY1_at 3 (some .int), .fieldLink RX1 26 "RowFiltersModel" "failed" "I", .methodLink RX1 50 yY1_bad, .instanceMethod yY1_bad, .selects RX1 yY1_bad yY1_bad, .initialized RX1, .methodLink RX1 56 yY1_untell, .instanceMethod yY1_untell, .selects RX1 yY1_untell yY1_untell, .fieldLink RX1 7 "RowFiltersModel" "height" "I", .fieldLink RX1 13 "RowFiltersModel" "width" "I", .fieldLink RX1 19 "RowFiltersModel" "bytes" "[I", .methodLink RX1 46 yY1_guess, .instanceMethod yY1_guess, .selects RX1 yY1_guess yY1_guess, .fieldLink RX1 16 "RowFiltersModel" "step" "I", .methodLink RX1 37 yY1_at, .instanceMethod yY1_at, .selects RX1 yY1_at yY1_at, .methodLink RX1 41 Lib.Math.abs.name, .static Lib.Math.abs.name, .initialized "java/lang/Math"] ++ wsY10)
def wsY1_best : List Cond := .code yY1_best cY1_best 7 (some .int) :: ([.code yY1_tell cY1_tell 6 (some .int), .code yY1_guess cY1_guess 11 (some .int), .code Lib.Math.abs.name Lib.Math.abs.code 1 (some .int), .code yY1_at cY1_at 3 (some .int), .fieldLink RX1 26 "RowFiltersModel" "failed" "I", .fieldLink RX1 7 "RowFiltersModel" "height" "I", .methodLink RX1 53 yY1_tell, .instanceMethod yY1_tell, .selects RX1 yY1_tell yY1_tell, .initialized RX1, .fieldLink RX1 13 "RowFiltersModel" "width" "I", .fieldLink RX1 19 "RowFiltersModel" "bytes" "[I", .fieldLink RX1 23 "RowFiltersModel" "told" "[I", .methodLink RX1 46 yY1_guess, .instanceMethod yY1_guess, .selects RX1 yY1_guess yY1_guess, .fieldLink RX1 16 "RowFiltersModel" "step" "I", .methodLink RX1 37 yY1_at, .instanceMethod yY1_at, .selects RX1 yY1_at yY1_at, .methodLink RX1 41 Lib.Math.abs.name, .static Lib.Math.abs.name, .initialized "java/lang/Math"] ++ wsY10)
def wsY1_undo : List Cond := .code yY1_undo cY1_undo 4 none :: ([.code yY1_untell cY1_untell 4 none, .code yY1_guess cY1_guess 11 (some .int), .code Lib.Math.abs.name Lib.Math.abs.code 1 (some .int), .code yY1_at cY1_at 3 (some .int), .fieldLink RX1 26 "RowFiltersModel" "failed" "I", .constant RX1 60 (390624), .fieldLink RX1 7 "RowFiltersModel" "height" "I", .methodLink RX1 56 yY1_untell, .instanceMethod yY1_untell, .selects RX1 yY1_untell yY1_untell, .initialized RX1, .fieldLink RX1 13 "RowFiltersModel" "width" "I", .fieldLink RX1 19 "RowFiltersModel" "bytes" "[I", .methodLink RX1 46 yY1_guess, .instanceMethod yY1_guess, .selects RX1 yY1_guess yY1_guess, .fieldLink RX1 16 "RowFiltersModel" "step" "I", .methodLink RX1 37 yY1_at, .instanceMethod yY1_at, .selects RX1 yY1_at yY1_at, .methodLink RX1 41 Lib.Math.abs.name, .static Lib.Math.abs.name, .initialized "java/lang/Math"] ++ wsY10)
def wsY1_hash : List Cond := .code yY1_hash cY1_hash 3 (some .int) :: ([.fieldLink RX1 26 "RowFiltersModel" "failed" "I", .fieldLink RX1 7 "RowFiltersModel" "height" "I", .fieldLink RX1 13 "RowFiltersModel" "width" "I", .fieldLink RX1 19 "RowFiltersModel" "bytes" "[I"] ++ wsY10)
def wsY1_column : List Cond := .code yY1_column cY1_column 3 (some .boolean) :: ([])
def wsY1_line : List Cond := .code yY1_line cY1_line 3 (some .boolean) :: ([])
def wsY1_pass : List Cond := .code yY1_pass cY1_pass 8 (some .int) :: ([.code yY1_fail cY1_fail 2 (some .int), .code yY1_column cY1_column 3 (some .boolean), .code yY1_line cY1_line 3 (some .boolean), .fieldLink RX1 26 "RowFiltersModel" "failed" "I", .constant RX1 61 (100000), .methodLink RX1 33 yY1_fail, .instanceMethod yY1_fail, .selects RX1 yY1_fail yY1_fail, .initialized RX1, .methodLink RX1 62 yY1_column, .instanceMethod yY1_column, .selects RX1 yY1_column yY1_column, .methodLink RX1 65 yY1_line, .instanceMethod yY1_line, .selects RX1 yY1_line yY1_line] ++ wsY10)
def wsY1_passOf : List Cond := .code yY1_passOf cY1_passOf 4 (some .int) :: ([.code yY1_fail cY1_fail 2 (some .int), .code yY1_column cY1_column 3 (some .boolean), .code yY1_line cY1_line 3 (some .boolean), .fieldLink RX1 26 "RowFiltersModel" "failed" "I", .constant RX1 68 (99999), .methodLink RX1 33 yY1_fail, .instanceMethod yY1_fail, .selects RX1 yY1_fail yY1_fail, .initialized RX1, .methodLink RX1 62 yY1_column, .instanceMethod yY1_column, .selects RX1 yY1_column yY1_column, .methodLink RX1 65 yY1_line, .instanceMethod yY1_line, .selects RX1 yY1_line yY1_line] ++ wsY10)
set_option maxRecDepth 20000 in
theorem gY1_set_Y1_out : GoodIn wsY1_set (wsV RX1 29 RX1 yY1_out wsY1_out) := goodIn_p _ [1] rfl (by decide +kernel)
set_option maxRecDepth 20000 in
theorem gY1_set_Y1_fail : GoodIn wsY1_set (wsV RX1 33 RX1 yY1_fail wsY1_fail) := goodIn_p _ [2] rfl (by decide +kernel)
set_option maxRecDepth 20000 in
theorem gY1_get_Y1_out : GoodIn wsY1_get (wsV RX1 29 RX1 yY1_out wsY1_out) := goodIn_p _ [1] rfl (by decide +kernel)
set_option maxRecDepth 20000 in
theorem gY1_get_Y1_fail : GoodIn wsY1_get (wsV RX1 33 RX1 yY1_fail wsY1_fail) := goodIn_p _ [2] rfl (by decide +kernel)
set_option maxRecDepth 20000 in
theorem gY1_guess_Y1_at : GoodIn wsY1_guess (wsV RX1 37 RX1 yY1_at wsY1_at) := goodIn_p _ [2] rfl (by decide +kernel)
set_option maxRecDepth 20000 in
theorem gY1_tell_Y1_guess : GoodIn wsY1_tell (wsV RX1 46 RX1 yY1_guess wsY1_guess) := goodIn_p _ [1, 2, 3] rfl (by decide +kernel)
set_option maxRecDepth 20000 in
theorem gY1_filter_Y1_bad : GoodIn wsY1_filter (wsV RX1 50 RX1 yY1_bad wsY1_bad) := goodIn_p _ [1] rfl (by decide +kernel)
set_option maxRecDepth 20000 in
theorem gY1_filter_Y1_tell : GoodIn wsY1_filter (wsV RX1 53 RX1 yY1_tell wsY1_tell) := goodIn_p _ [2, 3, 4, 5] rfl (by decide +kernel)
set_option maxRecDepth 20000 in
theorem gY1_untell_Y1_guess : GoodIn wsY1_untell (wsV RX1 46 RX1 yY1_guess wsY1_guess) := goodIn_p _ [1, 2, 3] rfl (by decide +kernel)
set_option maxRecDepth 20000 in
theorem gY1_plain_Y1_bad : GoodIn wsY1_plain (wsV RX1 50 RX1 yY1_bad wsY1_bad) := goodIn_p _ [1] rfl (by decide +kernel)
set_option maxRecDepth 20000 in
theorem gY1_plain_Y1_untell : GoodIn wsY1_plain (wsV RX1 56 RX1 yY1_untell wsY1_untell) := goodIn_p _ [2, 3, 4, 5] rfl (by decide +kernel)
set_option maxRecDepth 20000 in
theorem gY1_best_Y1_tell : GoodIn wsY1_best (wsV RX1 53 RX1 yY1_tell wsY1_tell) := goodIn_p _ [1, 2, 3, 4] rfl (by decide +kernel)
set_option maxRecDepth 20000 in
theorem gY1_undo_Y1_untell : GoodIn wsY1_undo (wsV RX1 56 RX1 yY1_untell wsY1_untell) := goodIn_p _ [1, 2, 3, 4] rfl (by decide +kernel)
set_option maxRecDepth 20000 in
theorem gY1_pass_Y1_fail : GoodIn wsY1_pass (wsV RX1 33 RX1 yY1_fail wsY1_fail) := goodIn_p _ [1] rfl (by decide +kernel)
set_option maxRecDepth 20000 in
theorem gY1_pass_Y1_column : GoodIn wsY1_pass (wsV RX1 62 RX1 yY1_column wsY1_column) := goodIn_p _ [2] rfl (by decide +kernel)
set_option maxRecDepth 20000 in
theorem gY1_pass_Y1_line : GoodIn wsY1_pass (wsV RX1 65 RX1 yY1_line wsY1_line) := goodIn_p _ [3] rfl (by decide +kernel)
set_option maxRecDepth 20000 in
theorem gY1_passOf_Y1_fail : GoodIn wsY1_passOf (wsV RX1 33 RX1 yY1_fail wsY1_fail) := goodIn_p _ [1] rfl (by decide +kernel)
set_option maxRecDepth 20000 in
theorem gY1_passOf_Y1_column : GoodIn wsY1_passOf (wsV RX1 62 RX1 yY1_column wsY1_column) := goodIn_p _ [2] rfl (by decide +kernel)
set_option maxRecDepth 20000 in
theorem gY1_passOf_Y1_line : GoodIn wsY1_passOf (wsV RX1 65 RX1 yY1_line wsY1_line) := goodIn_p _ [3] rfl (by decide +kernel)
end
section
theorem dY1_init_0 : decode cY1_init 0 = .ok (.aload_n 0, 1) := by decide +kernel
theorem dY1_init_1 : decode cY1_init 1 = .ok (.invokespecial 1, 3) := by decide +kernel
theorem dY1_init_4 : decode cY1_init 4 = .ok (.aload_n 0, 1) := by decide +kernel
theorem dY1_init_5 : decode cY1_init 5 = .ok (.iconst 1, 1) := by decide +kernel
theorem dY1_init_6 : decode cY1_init 6 = .ok (.putfield 7, 3) := by decide +kernel
theorem dY1_init_9 : decode cY1_init 9 = .ok (.aload_n 0, 1) := by decide +kernel
theorem dY1_init_10 : decode cY1_init 10 = .ok (.iconst 1, 1) := by decide +kernel
theorem dY1_init_11 : decode cY1_init 11 = .ok (.putfield 13, 3) := by decide +kernel
theorem dY1_init_14 : decode cY1_init 14 = .ok (.aload_n 0, 1) := by decide +kernel
theorem dY1_init_15 : decode cY1_init 15 = .ok (.iconst 1, 1) := by decide +kernel
theorem dY1_init_16 : decode cY1_init 16 = .ok (.putfield 16, 3) := by decide +kernel
theorem dY1_init_19 : decode cY1_init 19 = .ok (.aload_n 0, 1) := by decide +kernel
theorem dY1_init_20 : decode cY1_init 20 = .ok (.sipush 4096, 3) := by decide +kernel
theorem dY1_init_23 : decode cY1_init 23 = .ok (.newarray .int, 2) := by decide +kernel
theorem dY1_init_25 : decode cY1_init 25 = .ok (.putfield 19, 3) := by decide +kernel
theorem dY1_init_28 : decode cY1_init 28 = .ok (.aload_n 0, 1) := by decide +kernel
theorem dY1_init_29 : decode cY1_init 29 = .ok (.sipush 4096, 3) := by decide +kernel
theorem dY1_init_32 : decode cY1_init 32 = .ok (.newarray .int, 2) := by decide +kernel
theorem dY1_init_34 : decode cY1_init 34 = .ok (.putfield 23, 3) := by decide +kernel
theorem dY1_init_37 : decode cY1_init 37 = .ok (.return_, 1) := by decide +kernel
theorem dY1_thrown_0 : decode cY1_thrown 0 = .ok (.aload_n 0, 1) := by decide +kernel
theorem dY1_thrown_1 : decode cY1_thrown 1 = .ok (.getfield 26, 3) := by decide +kernel
theorem dY1_thrown_4 : decode cY1_thrown 4 = .ok (.ireturn, 1) := by decide +kernel
theorem dY1_open_0 : decode cY1_open 0 = .ok (.aload_n 0, 1) := by decide +kernel
theorem dY1_open_1 : decode cY1_open 1 = .ok (.iconst 0, 1) := by decide +kernel
theorem dY1_open_2 : decode cY1_open 2 = .ok (.putfield 26, 3) := by decide +kernel
theorem dY1_open_5 : decode cY1_open 5 = .ok (.iload_n 1, 1) := by decide +kernel
theorem dY1_open_6 : decode cY1_open 6 = .ok (.iconst 1, 1) := by decide +kernel
theorem dY1_open_7 : decode cY1_open 7 = .ok (.if_icmp .lt 42, 3) := by decide +kernel
theorem dY1_open_10 : decode cY1_open 10 = .ok (.iload_n 2, 1) := by decide +kernel
theorem dY1_open_11 : decode cY1_open 11 = .ok (.iconst 1, 1) := by decide +kernel
theorem dY1_open_12 : decode cY1_open 12 = .ok (.if_icmp .lt 37, 3) := by decide +kernel
theorem dY1_open_15 : decode cY1_open 15 = .ok (.iload_n 1, 1) := by decide +kernel
theorem dY1_open_16 : decode cY1_open 16 = .ok (.sipush 4096, 3) := by decide +kernel
theorem dY1_open_19 : decode cY1_open 19 = .ok (.if_icmp .gt 30, 3) := by decide +kernel
theorem dY1_open_22 : decode cY1_open 22 = .ok (.iload_n 2, 1) := by decide +kernel
theorem dY1_open_23 : decode cY1_open 23 = .ok (.sipush 4096, 3) := by decide +kernel
theorem dY1_open_26 : decode cY1_open 26 = .ok (.if_icmp .gt 23, 3) := by decide +kernel
theorem dY1_open_29 : decode cY1_open 29 = .ok (.iload_n 1, 1) := by decide +kernel
theorem dY1_open_30 : decode cY1_open 30 = .ok (.iload_n 2, 1) := by decide +kernel
theorem dY1_open_31 : decode cY1_open 31 = .ok (.imul, 1) := by decide +kernel
theorem dY1_open_32 : decode cY1_open 32 = .ok (.sipush 4096, 3) := by decide +kernel
theorem dY1_open_35 : decode cY1_open 35 = .ok (.if_icmp .gt 14, 3) := by decide +kernel
theorem dY1_open_38 : decode cY1_open 38 = .ok (.iload_n 3, 1) := by decide +kernel
theorem dY1_open_39 : decode cY1_open 39 = .ok (.iconst 1, 1) := by decide +kernel
theorem dY1_open_40 : decode cY1_open 40 = .ok (.if_icmp .lt 9, 3) := by decide +kernel
theorem dY1_open_43 : decode cY1_open 43 = .ok (.iload_n 3, 1) := by decide +kernel
theorem dY1_open_44 : decode cY1_open 44 = .ok (.bipush 8, 2) := by decide +kernel
theorem dY1_open_46 : decode cY1_open 46 = .ok (.if_icmp .le 11, 3) := by decide +kernel
theorem dY1_open_49 : decode cY1_open 49 = .ok (.aload_n 0, 1) := by decide +kernel
theorem dY1_open_50 : decode cY1_open 50 = .ok (.iconst 1, 1) := by decide +kernel
theorem dY1_open_51 : decode cY1_open 51 = .ok (.putfield 26, 3) := by decide +kernel
theorem dY1_open_54 : decode cY1_open 54 = .ok (.goto 43, 3) := by decide +kernel
theorem dY1_open_57 : decode cY1_open 57 = .ok (.aload_n 0, 1) := by decide +kernel
theorem dY1_open_58 : decode cY1_open 58 = .ok (.iload_n 1, 1) := by decide +kernel
theorem dY1_open_59 : decode cY1_open 59 = .ok (.putfield 7, 3) := by decide +kernel
theorem dY1_open_62 : decode cY1_open 62 = .ok (.aload_n 0, 1) := by decide +kernel
theorem dY1_open_63 : decode cY1_open 63 = .ok (.iload_n 2, 1) := by decide +kernel
theorem dY1_open_64 : decode cY1_open 64 = .ok (.putfield 13, 3) := by decide +kernel
theorem dY1_open_67 : decode cY1_open 67 = .ok (.aload_n 0, 1) := by decide +kernel
theorem dY1_open_68 : decode cY1_open 68 = .ok (.iload_n 3, 1) := by decide +kernel
theorem dY1_open_69 : decode cY1_open 69 = .ok (.putfield 16, 3) := by decide +kernel
theorem dY1_open_72 : decode cY1_open 72 = .ok (.iconst 0, 1) := by decide +kernel
theorem dY1_open_73 : decode cY1_open 73 = .ok (.istore 4, 2) := by decide +kernel
theorem dY1_open_75 : decode cY1_open 75 = .ok (.iload 4, 2) := by decide +kernel
theorem dY1_open_77 : decode cY1_open 77 = .ok (.iload_n 1, 1) := by decide +kernel
theorem dY1_open_78 : decode cY1_open 78 = .ok (.iload_n 2, 1) := by decide +kernel
theorem dY1_open_79 : decode cY1_open 79 = .ok (.imul, 1) := by decide +kernel
theorem dY1_open_80 : decode cY1_open 80 = .ok (.if_icmp .ge 17, 3) := by decide +kernel
theorem dY1_open_83 : decode cY1_open 83 = .ok (.aload_n 0, 1) := by decide +kernel
theorem dY1_open_84 : decode cY1_open 84 = .ok (.getfield 19, 3) := by decide +kernel
theorem dY1_open_87 : decode cY1_open 87 = .ok (.iload 4, 2) := by decide +kernel
theorem dY1_open_89 : decode cY1_open 89 = .ok (.iconst 0, 1) := by decide +kernel
theorem dY1_open_90 : decode cY1_open 90 = .ok (.iastore, 1) := by decide +kernel
theorem dY1_open_91 : decode cY1_open 91 = .ok (.iinc 4 1, 3) := by decide +kernel
theorem dY1_open_94 : decode cY1_open 94 = .ok (.goto (-19), 3) := by decide +kernel
theorem dY1_open_97 : decode cY1_open 97 = .ok (.return_, 1) := by decide +kernel
theorem dY1_set_0 : decode cY1_set 0 = .ok (.aload_n 0, 1) := by decide +kernel
theorem dY1_set_1 : decode cY1_set 1 = .ok (.iconst 0, 1) := by decide +kernel
theorem dY1_set_2 : decode cY1_set 2 = .ok (.putfield 26, 3) := by decide +kernel
theorem dY1_set_5 : decode cY1_set 5 = .ok (.aload_n 0, 1) := by decide +kernel
theorem dY1_set_6 : decode cY1_set 6 = .ok (.iload_n 1, 1) := by decide +kernel
theorem dY1_set_7 : decode cY1_set 7 = .ok (.iload_n 2, 1) := by decide +kernel
theorem dY1_set_8 : decode cY1_set 8 = .ok (.invokevirtual 29, 3) := by decide +kernel
theorem dY1_set_11 : decode cY1_set 11 = .ok (.ifCond .ne 14, 3) := by decide +kernel
theorem dY1_set_14 : decode cY1_set 14 = .ok (.iload_n 3, 1) := by decide +kernel
theorem dY1_set_15 : decode cY1_set 15 = .ok (.ifCond .lt 10, 3) := by decide +kernel
theorem dY1_set_18 : decode cY1_set 18 = .ok (.iload_n 3, 1) := by decide +kernel
theorem dY1_set_19 : decode cY1_set 19 = .ok (.sipush 255, 3) := by decide +kernel
theorem dY1_set_22 : decode cY1_set 22 = .ok (.if_icmp .le 9, 3) := by decide +kernel
theorem dY1_set_25 : decode cY1_set 25 = .ok (.aload_n 0, 1) := by decide +kernel
theorem dY1_set_26 : decode cY1_set 26 = .ok (.iconst 1, 1) := by decide +kernel
theorem dY1_set_27 : decode cY1_set 27 = .ok (.invokevirtual 33, 3) := by decide +kernel
theorem dY1_set_30 : decode cY1_set 30 = .ok (.ireturn, 1) := by decide +kernel
theorem dY1_set_31 : decode cY1_set 31 = .ok (.aload_n 0, 1) := by decide +kernel
theorem dY1_set_32 : decode cY1_set 32 = .ok (.getfield 19, 3) := by decide +kernel
theorem dY1_set_35 : decode cY1_set 35 = .ok (.iload_n 1, 1) := by decide +kernel
theorem dY1_set_36 : decode cY1_set 36 = .ok (.aload_n 0, 1) := by decide +kernel
theorem dY1_set_37 : decode cY1_set 37 = .ok (.getfield 13, 3) := by decide +kernel
theorem dY1_set_40 : decode cY1_set 40 = .ok (.imul, 1) := by decide +kernel
theorem dY1_set_41 : decode cY1_set 41 = .ok (.iload_n 2, 1) := by decide +kernel
theorem dY1_set_42 : decode cY1_set 42 = .ok (.iadd, 1) := by decide +kernel
theorem dY1_set_43 : decode cY1_set 43 = .ok (.iaload, 1) := by decide +kernel
theorem dY1_set_44 : decode cY1_set 44 = .ok (.istore 4, 2) := by decide +kernel
theorem dY1_set_46 : decode cY1_set 46 = .ok (.aload_n 0, 1) := by decide +kernel
theorem dY1_set_47 : decode cY1_set 47 = .ok (.getfield 19, 3) := by decide +kernel
theorem dY1_set_50 : decode cY1_set 50 = .ok (.iload_n 1, 1) := by decide +kernel
theorem dY1_set_51 : decode cY1_set 51 = .ok (.aload_n 0, 1) := by decide +kernel
theorem dY1_set_52 : decode cY1_set 52 = .ok (.getfield 13, 3) := by decide +kernel
theorem dY1_set_55 : decode cY1_set 55 = .ok (.imul, 1) := by decide +kernel
theorem dY1_set_56 : decode cY1_set 56 = .ok (.iload_n 2, 1) := by decide +kernel
theorem dY1_set_57 : decode cY1_set 57 = .ok (.iadd, 1) := by decide +kernel
theorem dY1_set_58 : decode cY1_set 58 = .ok (.iload_n 3, 1) := by decide +kernel
theorem dY1_set_59 : decode cY1_set 59 = .ok (.iastore, 1) := by decide +kernel
theorem dY1_set_60 : decode cY1_set 60 = .ok (.iload 4, 2) := by decide +kernel
theorem dY1_set_62 : decode cY1_set 62 = .ok (.ireturn, 1) := by decide +kernel
theorem dY1_out_0 : decode cY1_out 0 = .ok (.iload_n 1, 1) := by decide +kernel
theorem dY1_out_1 : decode cY1_out 1 = .ok (.ifCond .lt 23, 3) := by decide +kernel
theorem dY1_out_4 : decode cY1_out 4 = .ok (.iload_n 1, 1) := by decide +kernel
theorem dY1_out_5 : decode cY1_out 5 = .ok (.aload_n 0, 1) := by decide +kernel
theorem dY1_out_6 : decode cY1_out 6 = .ok (.getfield 7, 3) := by decide +kernel
theorem dY1_out_9 : decode cY1_out 9 = .ok (.if_icmp .ge 15, 3) := by decide +kernel
theorem dY1_out_12 : decode cY1_out 12 = .ok (.iload_n 2, 1) := by decide +kernel
theorem dY1_out_13 : decode cY1_out 13 = .ok (.ifCond .lt 11, 3) := by decide +kernel
theorem dY1_out_16 : decode cY1_out 16 = .ok (.iload_n 2, 1) := by decide +kernel
theorem dY1_out_17 : decode cY1_out 17 = .ok (.aload_n 0, 1) := by decide +kernel
theorem dY1_out_18 : decode cY1_out 18 = .ok (.getfield 13, 3) := by decide +kernel
theorem dY1_out_21 : decode cY1_out 21 = .ok (.if_icmp .lt 7, 3) := by decide +kernel
theorem dY1_out_24 : decode cY1_out 24 = .ok (.iconst 1, 1) := by decide +kernel
theorem dY1_out_25 : decode cY1_out 25 = .ok (.goto 4, 3) := by decide +kernel
theorem dY1_out_28 : decode cY1_out 28 = .ok (.iconst 0, 1) := by decide +kernel
theorem dY1_out_29 : decode cY1_out 29 = .ok (.ireturn, 1) := by decide +kernel
theorem dY1_fail_0 : decode cY1_fail 0 = .ok (.aload_n 0, 1) := by decide +kernel
theorem dY1_fail_1 : decode cY1_fail 1 = .ok (.iload_n 1, 1) := by decide +kernel
theorem dY1_fail_2 : decode cY1_fail 2 = .ok (.putfield 26, 3) := by decide +kernel
theorem dY1_fail_5 : decode cY1_fail 5 = .ok (.iconst 0, 1) := by decide +kernel
theorem dY1_fail_6 : decode cY1_fail 6 = .ok (.ireturn, 1) := by decide +kernel
theorem dY1_get_0 : decode cY1_get 0 = .ok (.aload_n 0, 1) := by decide +kernel
theorem dY1_get_1 : decode cY1_get 1 = .ok (.iconst 0, 1) := by decide +kernel
theorem dY1_get_2 : decode cY1_get 2 = .ok (.putfield 26, 3) := by decide +kernel
theorem dY1_get_5 : decode cY1_get 5 = .ok (.aload_n 0, 1) := by decide +kernel
theorem dY1_get_6 : decode cY1_get 6 = .ok (.iload_n 1, 1) := by decide +kernel
theorem dY1_get_7 : decode cY1_get 7 = .ok (.iload_n 2, 1) := by decide +kernel
theorem dY1_get_8 : decode cY1_get 8 = .ok (.invokevirtual 29, 3) := by decide +kernel
theorem dY1_get_11 : decode cY1_get 11 = .ok (.ifCond .eq 11, 3) := by decide +kernel
theorem dY1_get_14 : decode cY1_get 14 = .ok (.aload_n 0, 1) := by decide +kernel
theorem dY1_get_15 : decode cY1_get 15 = .ok (.iconst 1, 1) := by decide +kernel
theorem dY1_get_16 : decode cY1_get 16 = .ok (.invokevirtual 33, 3) := by decide +kernel
theorem dY1_get_19 : decode cY1_get 19 = .ok (.goto 16, 3) := by decide +kernel
theorem dY1_get_22 : decode cY1_get 22 = .ok (.aload_n 0, 1) := by decide +kernel
theorem dY1_get_23 : decode cY1_get 23 = .ok (.getfield 19, 3) := by decide +kernel
theorem dY1_get_26 : decode cY1_get 26 = .ok (.iload_n 1, 1) := by decide +kernel
theorem dY1_get_27 : decode cY1_get 27 = .ok (.aload_n 0, 1) := by decide +kernel
theorem dY1_get_28 : decode cY1_get 28 = .ok (.getfield 13, 3) := by decide +kernel
theorem dY1_get_31 : decode cY1_get 31 = .ok (.imul, 1) := by decide +kernel
theorem dY1_get_32 : decode cY1_get 32 = .ok (.iload_n 2, 1) := by decide +kernel
theorem dY1_get_33 : decode cY1_get 33 = .ok (.iadd, 1) := by decide +kernel
theorem dY1_get_34 : decode cY1_get 34 = .ok (.iaload, 1) := by decide +kernel
theorem dY1_get_35 : decode cY1_get 35 = .ok (.ireturn, 1) := by decide +kernel
theorem dY1_fill_0 : decode cY1_fill 0 = .ok (.aload_n 0, 1) := by decide +kernel
theorem dY1_fill_1 : decode cY1_fill 1 = .ok (.iconst 0, 1) := by decide +kernel
theorem dY1_fill_2 : decode cY1_fill 2 = .ok (.putfield 26, 3) := by decide +kernel
theorem dY1_fill_5 : decode cY1_fill 5 = .ok (.iconst 0, 1) := by decide +kernel
theorem dY1_fill_6 : decode cY1_fill 6 = .ok (.istore 4, 2) := by decide +kernel
theorem dY1_fill_8 : decode cY1_fill 8 = .ok (.iload 4, 2) := by decide +kernel
theorem dY1_fill_10 : decode cY1_fill 10 = .ok (.aload_n 0, 1) := by decide +kernel
theorem dY1_fill_11 : decode cY1_fill 11 = .ok (.getfield 7, 3) := by decide +kernel
theorem dY1_fill_14 : decode cY1_fill 14 = .ok (.aload_n 0, 1) := by decide +kernel
theorem dY1_fill_15 : decode cY1_fill 15 = .ok (.getfield 13, 3) := by decide +kernel
theorem dY1_fill_18 : decode cY1_fill 18 = .ok (.imul, 1) := by decide +kernel
theorem dY1_fill_19 : decode cY1_fill 19 = .ok (.if_icmp .ge 33, 3) := by decide +kernel
theorem dY1_fill_22 : decode cY1_fill 22 = .ok (.aload_n 0, 1) := by decide +kernel
theorem dY1_fill_23 : decode cY1_fill 23 = .ok (.getfield 19, 3) := by decide +kernel
theorem dY1_fill_26 : decode cY1_fill 26 = .ok (.iload 4, 2) := by decide +kernel
theorem dY1_fill_28 : decode cY1_fill 28 = .ok (.iload_n 1, 1) := by decide +kernel
theorem dY1_fill_29 : decode cY1_fill 29 = .ok (.iload 4, 2) := by decide +kernel
theorem dY1_fill_31 : decode cY1_fill 31 = .ok (.imul, 1) := by decide +kernel
theorem dY1_fill_32 : decode cY1_fill 32 = .ok (.iload 4, 2) := by decide +kernel
theorem dY1_fill_34 : decode cY1_fill 34 = .ok (.imul, 1) := by decide +kernel
theorem dY1_fill_35 : decode cY1_fill 35 = .ok (.iload_n 2, 1) := by decide +kernel
theorem dY1_fill_36 : decode cY1_fill 36 = .ok (.iload 4, 2) := by decide +kernel
theorem dY1_fill_38 : decode cY1_fill 38 = .ok (.imul, 1) := by decide +kernel
theorem dY1_fill_39 : decode cY1_fill 39 = .ok (.iadd, 1) := by decide +kernel
theorem dY1_fill_40 : decode cY1_fill 40 = .ok (.iload_n 3, 1) := by decide +kernel
theorem dY1_fill_41 : decode cY1_fill 41 = .ok (.iadd, 1) := by decide +kernel
theorem dY1_fill_42 : decode cY1_fill 42 = .ok (.bipush 24, 2) := by decide +kernel
theorem dY1_fill_44 : decode cY1_fill 44 = .ok (.iushr, 1) := by decide +kernel
theorem dY1_fill_45 : decode cY1_fill 45 = .ok (.iastore, 1) := by decide +kernel
theorem dY1_fill_46 : decode cY1_fill 46 = .ok (.iinc 4 1, 3) := by decide +kernel
theorem dY1_fill_49 : decode cY1_fill 49 = .ok (.goto (-41), 3) := by decide +kernel
theorem dY1_fill_52 : decode cY1_fill 52 = .ok (.return_, 1) := by decide +kernel
theorem dY1_filter_0 : decode cY1_filter 0 = .ok (.aload_n 0, 1) := by decide +kernel
theorem dY1_filter_1 : decode cY1_filter 1 = .ok (.iconst 0, 1) := by decide +kernel
theorem dY1_filter_2 : decode cY1_filter 2 = .ok (.putfield 26, 3) := by decide +kernel
theorem dY1_filter_5 : decode cY1_filter 5 = .ok (.aload_n 0, 1) := by decide +kernel
theorem dY1_filter_6 : decode cY1_filter 6 = .ok (.iload_n 1, 1) := by decide +kernel
theorem dY1_filter_7 : decode cY1_filter 7 = .ok (.iload_n 2, 1) := by decide +kernel
theorem dY1_filter_8 : decode cY1_filter 8 = .ok (.invokevirtual 50, 3) := by decide +kernel
theorem dY1_filter_11 : decode cY1_filter 11 = .ok (.ifCond .eq 11, 3) := by decide +kernel
theorem dY1_filter_14 : decode cY1_filter 14 = .ok (.aload_n 0, 1) := by decide +kernel
theorem dY1_filter_15 : decode cY1_filter 15 = .ok (.iconst 1, 1) := by decide +kernel
theorem dY1_filter_16 : decode cY1_filter 16 = .ok (.putfield 26, 3) := by decide +kernel
theorem dY1_filter_19 : decode cY1_filter 19 = .ok (.goto 54, 3) := by decide +kernel
theorem dY1_filter_22 : decode cY1_filter 22 = .ok (.aload_n 0, 1) := by decide +kernel
theorem dY1_filter_23 : decode cY1_filter 23 = .ok (.iload_n 1, 1) := by decide +kernel
theorem dY1_filter_24 : decode cY1_filter 24 = .ok (.iload_n 2, 1) := by decide +kernel
theorem dY1_filter_25 : decode cY1_filter 25 = .ok (.invokevirtual 53, 3) := by decide +kernel
theorem dY1_filter_28 : decode cY1_filter 28 = .ok (.istore_n 3, 1) := by decide +kernel
theorem dY1_filter_29 : decode cY1_filter 29 = .ok (.iload_n 1, 1) := by decide +kernel
theorem dY1_filter_30 : decode cY1_filter 30 = .ok (.aload_n 0, 1) := by decide +kernel
theorem dY1_filter_31 : decode cY1_filter 31 = .ok (.getfield 13, 3) := by decide +kernel
theorem dY1_filter_34 : decode cY1_filter 34 = .ok (.imul, 1) := by decide +kernel
theorem dY1_filter_35 : decode cY1_filter 35 = .ok (.istore 4, 2) := by decide +kernel
theorem dY1_filter_37 : decode cY1_filter 37 = .ok (.iload 4, 2) := by decide +kernel
theorem dY1_filter_39 : decode cY1_filter 39 = .ok (.iload_n 1, 1) := by decide +kernel
theorem dY1_filter_40 : decode cY1_filter 40 = .ok (.aload_n 0, 1) := by decide +kernel
theorem dY1_filter_41 : decode cY1_filter 41 = .ok (.getfield 13, 3) := by decide +kernel
theorem dY1_filter_44 : decode cY1_filter 44 = .ok (.imul, 1) := by decide +kernel
theorem dY1_filter_45 : decode cY1_filter 45 = .ok (.aload_n 0, 1) := by decide +kernel
theorem dY1_filter_46 : decode cY1_filter 46 = .ok (.getfield 13, 3) := by decide +kernel
theorem dY1_filter_49 : decode cY1_filter 49 = .ok (.iadd, 1) := by decide +kernel
theorem dY1_filter_50 : decode cY1_filter 50 = .ok (.if_icmp .ge 23, 3) := by decide +kernel
theorem dY1_filter_53 : decode cY1_filter 53 = .ok (.aload_n 0, 1) := by decide +kernel
theorem dY1_filter_54 : decode cY1_filter 54 = .ok (.getfield 19, 3) := by decide +kernel
theorem dY1_filter_57 : decode cY1_filter 57 = .ok (.iload 4, 2) := by decide +kernel
theorem dY1_filter_59 : decode cY1_filter 59 = .ok (.aload_n 0, 1) := by decide +kernel
theorem dY1_filter_60 : decode cY1_filter 60 = .ok (.getfield 23, 3) := by decide +kernel
theorem dY1_filter_63 : decode cY1_filter 63 = .ok (.iload 4, 2) := by decide +kernel
theorem dY1_filter_65 : decode cY1_filter 65 = .ok (.iaload, 1) := by decide +kernel
theorem dY1_filter_66 : decode cY1_filter 66 = .ok (.iastore, 1) := by decide +kernel
theorem dY1_filter_67 : decode cY1_filter 67 = .ok (.iinc 4 1, 3) := by decide +kernel
theorem dY1_filter_70 : decode cY1_filter 70 = .ok (.goto (-33), 3) := by decide +kernel
theorem dY1_filter_73 : decode cY1_filter 73 = .ok (.return_, 1) := by decide +kernel
theorem dY1_bad_0 : decode cY1_bad 0 = .ok (.iload_n 1, 1) := by decide +kernel
theorem dY1_bad_1 : decode cY1_bad 1 = .ok (.ifCond .lt 20, 3) := by decide +kernel
theorem dY1_bad_4 : decode cY1_bad 4 = .ok (.iload_n 1, 1) := by decide +kernel
theorem dY1_bad_5 : decode cY1_bad 5 = .ok (.aload_n 0, 1) := by decide +kernel
theorem dY1_bad_6 : decode cY1_bad 6 = .ok (.getfield 7, 3) := by decide +kernel
theorem dY1_bad_9 : decode cY1_bad 9 = .ok (.if_icmp .ge 12, 3) := by decide +kernel
theorem dY1_bad_12 : decode cY1_bad 12 = .ok (.iload_n 2, 1) := by decide +kernel
theorem dY1_bad_13 : decode cY1_bad 13 = .ok (.ifCond .lt 8, 3) := by decide +kernel
theorem dY1_bad_16 : decode cY1_bad 16 = .ok (.iload_n 2, 1) := by decide +kernel
theorem dY1_bad_17 : decode cY1_bad 17 = .ok (.iconst 4, 1) := by decide +kernel
theorem dY1_bad_18 : decode cY1_bad 18 = .ok (.if_icmp .le 7, 3) := by decide +kernel
theorem dY1_bad_21 : decode cY1_bad 21 = .ok (.iconst 1, 1) := by decide +kernel
theorem dY1_bad_22 : decode cY1_bad 22 = .ok (.goto 4, 3) := by decide +kernel
theorem dY1_bad_25 : decode cY1_bad 25 = .ok (.iconst 0, 1) := by decide +kernel
theorem dY1_bad_26 : decode cY1_bad 26 = .ok (.ireturn, 1) := by decide +kernel
theorem dY1_tell_0 : decode cY1_tell 0 = .ok (.iconst 0, 1) := by decide +kernel
theorem dY1_tell_1 : decode cY1_tell 1 = .ok (.istore_n 3, 1) := by decide +kernel
theorem dY1_tell_2 : decode cY1_tell 2 = .ok (.iconst 0, 1) := by decide +kernel
theorem dY1_tell_3 : decode cY1_tell 3 = .ok (.istore 4, 2) := by decide +kernel
theorem dY1_tell_5 : decode cY1_tell 5 = .ok (.iload 4, 2) := by decide +kernel
theorem dY1_tell_7 : decode cY1_tell 7 = .ok (.aload_n 0, 1) := by decide +kernel
theorem dY1_tell_8 : decode cY1_tell 8 = .ok (.getfield 13, 3) := by decide +kernel
theorem dY1_tell_11 : decode cY1_tell 11 = .ok (.if_icmp .ge 76, 3) := by decide +kernel
theorem dY1_tell_14 : decode cY1_tell 14 = .ok (.aload_n 0, 1) := by decide +kernel
theorem dY1_tell_15 : decode cY1_tell 15 = .ok (.getfield 19, 3) := by decide +kernel
theorem dY1_tell_18 : decode cY1_tell 18 = .ok (.iload_n 1, 1) := by decide +kernel
theorem dY1_tell_19 : decode cY1_tell 19 = .ok (.aload_n 0, 1) := by decide +kernel
theorem dY1_tell_20 : decode cY1_tell 20 = .ok (.getfield 13, 3) := by decide +kernel
theorem dY1_tell_23 : decode cY1_tell 23 = .ok (.imul, 1) := by decide +kernel
theorem dY1_tell_24 : decode cY1_tell 24 = .ok (.iload 4, 2) := by decide +kernel
theorem dY1_tell_26 : decode cY1_tell 26 = .ok (.iadd, 1) := by decide +kernel
theorem dY1_tell_27 : decode cY1_tell 27 = .ok (.iaload, 1) := by decide +kernel
theorem dY1_tell_28 : decode cY1_tell 28 = .ok (.aload_n 0, 1) := by decide +kernel
theorem dY1_tell_29 : decode cY1_tell 29 = .ok (.iload_n 1, 1) := by decide +kernel
theorem dY1_tell_30 : decode cY1_tell 30 = .ok (.iload 4, 2) := by decide +kernel
theorem dY1_tell_32 : decode cY1_tell 32 = .ok (.iload_n 2, 1) := by decide +kernel
theorem dY1_tell_33 : decode cY1_tell 33 = .ok (.invokevirtual 46, 3) := by decide +kernel
theorem dY1_tell_36 : decode cY1_tell 36 = .ok (.isub, 1) := by decide +kernel
theorem dY1_tell_37 : decode cY1_tell 37 = .ok (.sipush 255, 3) := by decide +kernel
theorem dY1_tell_40 : decode cY1_tell 40 = .ok (.iand, 1) := by decide +kernel
theorem dY1_tell_41 : decode cY1_tell 41 = .ok (.istore 5, 2) := by decide +kernel
theorem dY1_tell_43 : decode cY1_tell 43 = .ok (.aload_n 0, 1) := by decide +kernel
theorem dY1_tell_44 : decode cY1_tell 44 = .ok (.getfield 23, 3) := by decide +kernel
theorem dY1_tell_47 : decode cY1_tell 47 = .ok (.iload_n 1, 1) := by decide +kernel
theorem dY1_tell_48 : decode cY1_tell 48 = .ok (.aload_n 0, 1) := by decide +kernel
theorem dY1_tell_49 : decode cY1_tell 49 = .ok (.getfield 13, 3) := by decide +kernel
theorem dY1_tell_52 : decode cY1_tell 52 = .ok (.imul, 1) := by decide +kernel
theorem dY1_tell_53 : decode cY1_tell 53 = .ok (.iload 4, 2) := by decide +kernel
theorem dY1_tell_55 : decode cY1_tell 55 = .ok (.iadd, 1) := by decide +kernel
theorem dY1_tell_56 : decode cY1_tell 56 = .ok (.iload 5, 2) := by decide +kernel
theorem dY1_tell_58 : decode cY1_tell 58 = .ok (.iastore, 1) := by decide +kernel
theorem dY1_tell_59 : decode cY1_tell 59 = .ok (.iload_n 3, 1) := by decide +kernel
theorem dY1_tell_60 : decode cY1_tell 60 = .ok (.iload 5, 2) := by decide +kernel
theorem dY1_tell_62 : decode cY1_tell 62 = .ok (.sipush 128, 3) := by decide +kernel
theorem dY1_tell_65 : decode cY1_tell 65 = .ok (.if_icmp .ge 8, 3) := by decide +kernel
theorem dY1_tell_68 : decode cY1_tell 68 = .ok (.iload 5, 2) := by decide +kernel
theorem dY1_tell_70 : decode cY1_tell 70 = .ok (.goto 9, 3) := by decide +kernel
theorem dY1_tell_73 : decode cY1_tell 73 = .ok (.sipush 256, 3) := by decide +kernel
theorem dY1_tell_76 : decode cY1_tell 76 = .ok (.iload 5, 2) := by decide +kernel
theorem dY1_tell_78 : decode cY1_tell 78 = .ok (.isub, 1) := by decide +kernel
theorem dY1_tell_79 : decode cY1_tell 79 = .ok (.iadd, 1) := by decide +kernel
theorem dY1_tell_80 : decode cY1_tell 80 = .ok (.istore_n 3, 1) := by decide +kernel
theorem dY1_tell_81 : decode cY1_tell 81 = .ok (.iinc 4 1, 3) := by decide +kernel
theorem dY1_tell_84 : decode cY1_tell 84 = .ok (.goto (-79), 3) := by decide +kernel
theorem dY1_tell_87 : decode cY1_tell 87 = .ok (.iload_n 3, 1) := by decide +kernel
theorem dY1_tell_88 : decode cY1_tell 88 = .ok (.ireturn, 1) := by decide +kernel
theorem dY1_guess_0 : decode cY1_guess 0 = .ok (.aload_n 0, 1) := by decide +kernel
theorem dY1_guess_1 : decode cY1_guess 1 = .ok (.iload_n 1, 1) := by decide +kernel
theorem dY1_guess_2 : decode cY1_guess 2 = .ok (.iload_n 2, 1) := by decide +kernel
theorem dY1_guess_3 : decode cY1_guess 3 = .ok (.aload_n 0, 1) := by decide +kernel
theorem dY1_guess_4 : decode cY1_guess 4 = .ok (.getfield 16, 3) := by decide +kernel
theorem dY1_guess_7 : decode cY1_guess 7 = .ok (.isub, 1) := by decide +kernel
theorem dY1_guess_8 : decode cY1_guess 8 = .ok (.invokevirtual 37, 3) := by decide +kernel
theorem dY1_guess_11 : decode cY1_guess 11 = .ok (.istore 4, 2) := by decide +kernel
theorem dY1_guess_13 : decode cY1_guess 13 = .ok (.aload_n 0, 1) := by decide +kernel
theorem dY1_guess_14 : decode cY1_guess 14 = .ok (.iload_n 1, 1) := by decide +kernel
theorem dY1_guess_15 : decode cY1_guess 15 = .ok (.iconst 1, 1) := by decide +kernel
theorem dY1_guess_16 : decode cY1_guess 16 = .ok (.isub, 1) := by decide +kernel
theorem dY1_guess_17 : decode cY1_guess 17 = .ok (.iload_n 2, 1) := by decide +kernel
theorem dY1_guess_18 : decode cY1_guess 18 = .ok (.invokevirtual 37, 3) := by decide +kernel
theorem dY1_guess_21 : decode cY1_guess 21 = .ok (.istore 5, 2) := by decide +kernel
theorem dY1_guess_23 : decode cY1_guess 23 = .ok (.aload_n 0, 1) := by decide +kernel
theorem dY1_guess_24 : decode cY1_guess 24 = .ok (.iload_n 1, 1) := by decide +kernel
theorem dY1_guess_25 : decode cY1_guess 25 = .ok (.iconst 1, 1) := by decide +kernel
theorem dY1_guess_26 : decode cY1_guess 26 = .ok (.isub, 1) := by decide +kernel
theorem dY1_guess_27 : decode cY1_guess 27 = .ok (.iload_n 2, 1) := by decide +kernel
theorem dY1_guess_28 : decode cY1_guess 28 = .ok (.aload_n 0, 1) := by decide +kernel
theorem dY1_guess_29 : decode cY1_guess 29 = .ok (.getfield 16, 3) := by decide +kernel
theorem dY1_guess_32 : decode cY1_guess 32 = .ok (.isub, 1) := by decide +kernel
theorem dY1_guess_33 : decode cY1_guess 33 = .ok (.invokevirtual 37, 3) := by decide +kernel
theorem dY1_guess_36 : decode cY1_guess 36 = .ok (.istore 6, 2) := by decide +kernel
theorem dY1_guess_38 : decode cY1_guess 38 = .ok (.iload_n 3, 1) := by decide +kernel
theorem dY1_guess_39 : decode cY1_guess 39 = .ok (.ifCond .ne 5, 3) := by decide +kernel
theorem dY1_guess_42 : decode cY1_guess 42 = .ok (.iconst 0, 1) := by decide +kernel
theorem dY1_guess_43 : decode cY1_guess 43 = .ok (.ireturn, 1) := by decide +kernel
theorem dY1_guess_44 : decode cY1_guess 44 = .ok (.iload_n 3, 1) := by decide +kernel
theorem dY1_guess_45 : decode cY1_guess 45 = .ok (.iconst 1, 1) := by decide +kernel
theorem dY1_guess_46 : decode cY1_guess 46 = .ok (.if_icmp .ne 6, 3) := by decide +kernel
theorem dY1_guess_49 : decode cY1_guess 49 = .ok (.iload 4, 2) := by decide +kernel
theorem dY1_guess_51 : decode cY1_guess 51 = .ok (.ireturn, 1) := by decide +kernel
theorem dY1_guess_52 : decode cY1_guess 52 = .ok (.iload_n 3, 1) := by decide +kernel
theorem dY1_guess_53 : decode cY1_guess 53 = .ok (.iconst 2, 1) := by decide +kernel
theorem dY1_guess_54 : decode cY1_guess 54 = .ok (.if_icmp .ne 6, 3) := by decide +kernel
theorem dY1_guess_57 : decode cY1_guess 57 = .ok (.iload 5, 2) := by decide +kernel
theorem dY1_guess_59 : decode cY1_guess 59 = .ok (.ireturn, 1) := by decide +kernel
theorem dY1_guess_60 : decode cY1_guess 60 = .ok (.iload_n 3, 1) := by decide +kernel
theorem dY1_guess_61 : decode cY1_guess 61 = .ok (.iconst 3, 1) := by decide +kernel
theorem dY1_guess_62 : decode cY1_guess 62 = .ok (.if_icmp .ne 11, 3) := by decide +kernel
theorem dY1_guess_65 : decode cY1_guess 65 = .ok (.iload 4, 2) := by decide +kernel
theorem dY1_guess_67 : decode cY1_guess 67 = .ok (.iload 5, 2) := by decide +kernel
theorem dY1_guess_69 : decode cY1_guess 69 = .ok (.iadd, 1) := by decide +kernel
theorem dY1_guess_70 : decode cY1_guess 70 = .ok (.iconst 2, 1) := by decide +kernel
theorem dY1_guess_71 : decode cY1_guess 71 = .ok (.idiv, 1) := by decide +kernel
theorem dY1_guess_72 : decode cY1_guess 72 = .ok (.ireturn, 1) := by decide +kernel
theorem dY1_guess_73 : decode cY1_guess 73 = .ok (.iload 4, 2) := by decide +kernel
theorem dY1_guess_75 : decode cY1_guess 75 = .ok (.iload 5, 2) := by decide +kernel
theorem dY1_guess_77 : decode cY1_guess 77 = .ok (.iadd, 1) := by decide +kernel
theorem dY1_guess_78 : decode cY1_guess 78 = .ok (.iload 6, 2) := by decide +kernel
theorem dY1_guess_80 : decode cY1_guess 80 = .ok (.isub, 1) := by decide +kernel
theorem dY1_guess_81 : decode cY1_guess 81 = .ok (.istore 7, 2) := by decide +kernel
theorem dY1_guess_83 : decode cY1_guess 83 = .ok (.iload 7, 2) := by decide +kernel
theorem dY1_guess_85 : decode cY1_guess 85 = .ok (.iload 4, 2) := by decide +kernel
theorem dY1_guess_87 : decode cY1_guess 87 = .ok (.isub, 1) := by decide +kernel
theorem dY1_guess_88 : decode cY1_guess 88 = .ok (.invokestatic 41, 3) := by decide +kernel
theorem dY1_guess_91 : decode cY1_guess 91 = .ok (.istore 8, 2) := by decide +kernel
theorem dY1_guess_93 : decode cY1_guess 93 = .ok (.iload 7, 2) := by decide +kernel
theorem dY1_guess_95 : decode cY1_guess 95 = .ok (.iload 5, 2) := by decide +kernel
theorem dY1_guess_97 : decode cY1_guess 97 = .ok (.isub, 1) := by decide +kernel
theorem dY1_guess_98 : decode cY1_guess 98 = .ok (.invokestatic 41, 3) := by decide +kernel
theorem dY1_guess_101 : decode cY1_guess 101 = .ok (.istore 9, 2) := by decide +kernel
theorem dY1_guess_103 : decode cY1_guess 103 = .ok (.iload 7, 2) := by decide +kernel
theorem dY1_guess_105 : decode cY1_guess 105 = .ok (.iload 6, 2) := by decide +kernel
theorem dY1_guess_107 : decode cY1_guess 107 = .ok (.isub, 1) := by decide +kernel
theorem dY1_guess_108 : decode cY1_guess 108 = .ok (.invokestatic 41, 3) := by decide +kernel
theorem dY1_guess_111 : decode cY1_guess 111 = .ok (.istore 10, 2) := by decide +kernel
theorem dY1_guess_113 : decode cY1_guess 113 = .ok (.iload 8, 2) := by decide +kernel
theorem dY1_guess_115 : decode cY1_guess 115 = .ok (.iload 9, 2) := by decide +kernel
theorem dY1_guess_117 : decode cY1_guess 117 = .ok (.if_icmp .gt 15, 3) := by decide +kernel
theorem dY1_guess_120 : decode cY1_guess 120 = .ok (.iload 8, 2) := by decide +kernel
theorem dY1_guess_122 : decode cY1_guess 122 = .ok (.iload 10, 2) := by decide +kernel
theorem dY1_guess_124 : decode cY1_guess 124 = .ok (.if_icmp .gt 8, 3) := by decide +kernel
theorem dY1_guess_127 : decode cY1_guess 127 = .ok (.iload 4, 2) := by decide +kernel
theorem dY1_guess_129 : decode cY1_guess 129 = .ok (.goto 17, 3) := by decide +kernel
theorem dY1_guess_132 : decode cY1_guess 132 = .ok (.iload 9, 2) := by decide +kernel
theorem dY1_guess_134 : decode cY1_guess 134 = .ok (.iload 10, 2) := by decide +kernel
theorem dY1_guess_136 : decode cY1_guess 136 = .ok (.if_icmp .gt 8, 3) := by decide +kernel
theorem dY1_guess_139 : decode cY1_guess 139 = .ok (.iload 5, 2) := by decide +kernel
theorem dY1_guess_141 : decode cY1_guess 141 = .ok (.goto 5, 3) := by decide +kernel
theorem dY1_guess_144 : decode cY1_guess 144 = .ok (.iload 6, 2) := by decide +kernel
theorem dY1_guess_146 : decode cY1_guess 146 = .ok (.ireturn, 1) := by decide +kernel
theorem dY1_at_0 : decode cY1_at 0 = .ok (.iload_n 1, 1) := by decide +kernel
theorem dY1_at_1 : decode cY1_at 1 = .ok (.ifCond .lt 7, 3) := by decide +kernel
theorem dY1_at_4 : decode cY1_at 4 = .ok (.iload_n 2, 1) := by decide +kernel
theorem dY1_at_5 : decode cY1_at 5 = .ok (.ifCond .ge 7, 3) := by decide +kernel
theorem dY1_at_8 : decode cY1_at 8 = .ok (.iconst 0, 1) := by decide +kernel
theorem dY1_at_9 : decode cY1_at 9 = .ok (.goto 16, 3) := by decide +kernel
theorem dY1_at_12 : decode cY1_at 12 = .ok (.aload_n 0, 1) := by decide +kernel
theorem dY1_at_13 : decode cY1_at 13 = .ok (.getfield 19, 3) := by decide +kernel
theorem dY1_at_16 : decode cY1_at 16 = .ok (.iload_n 1, 1) := by decide +kernel
theorem dY1_at_17 : decode cY1_at 17 = .ok (.aload_n 0, 1) := by decide +kernel
theorem dY1_at_18 : decode cY1_at 18 = .ok (.getfield 13, 3) := by decide +kernel
theorem dY1_at_21 : decode cY1_at 21 = .ok (.imul, 1) := by decide +kernel
theorem dY1_at_22 : decode cY1_at 22 = .ok (.iload_n 2, 1) := by decide +kernel
theorem dY1_at_23 : decode cY1_at 23 = .ok (.iadd, 1) := by decide +kernel
theorem dY1_at_24 : decode cY1_at 24 = .ok (.iaload, 1) := by decide +kernel
theorem dY1_at_25 : decode cY1_at 25 = .ok (.ireturn, 1) := by decide +kernel
theorem dY1_plain_0 : decode cY1_plain 0 = .ok (.aload_n 0, 1) := by decide +kernel
theorem dY1_plain_1 : decode cY1_plain 1 = .ok (.iconst 0, 1) := by decide +kernel
theorem dY1_plain_2 : decode cY1_plain 2 = .ok (.putfield 26, 3) := by decide +kernel
theorem dY1_plain_5 : decode cY1_plain 5 = .ok (.aload_n 0, 1) := by decide +kernel
theorem dY1_plain_6 : decode cY1_plain 6 = .ok (.iload_n 1, 1) := by decide +kernel
theorem dY1_plain_7 : decode cY1_plain 7 = .ok (.iload_n 2, 1) := by decide +kernel
theorem dY1_plain_8 : decode cY1_plain 8 = .ok (.invokevirtual 50, 3) := by decide +kernel
theorem dY1_plain_11 : decode cY1_plain 11 = .ok (.ifCond .eq 11, 3) := by decide +kernel
theorem dY1_plain_14 : decode cY1_plain 14 = .ok (.aload_n 0, 1) := by decide +kernel
theorem dY1_plain_15 : decode cY1_plain 15 = .ok (.iconst 1, 1) := by decide +kernel
theorem dY1_plain_16 : decode cY1_plain 16 = .ok (.putfield 26, 3) := by decide +kernel
theorem dY1_plain_19 : decode cY1_plain 19 = .ok (.goto 9, 3) := by decide +kernel
theorem dY1_plain_22 : decode cY1_plain 22 = .ok (.aload_n 0, 1) := by decide +kernel
theorem dY1_plain_23 : decode cY1_plain 23 = .ok (.iload_n 1, 1) := by decide +kernel
theorem dY1_plain_24 : decode cY1_plain 24 = .ok (.iload_n 2, 1) := by decide +kernel
theorem dY1_plain_25 : decode cY1_plain 25 = .ok (.invokevirtual 56, 3) := by decide +kernel
theorem dY1_plain_28 : decode cY1_plain 28 = .ok (.return_, 1) := by decide +kernel
theorem dY1_untell_0 : decode cY1_untell 0 = .ok (.iconst 0, 1) := by decide +kernel
theorem dY1_untell_1 : decode cY1_untell 1 = .ok (.istore_n 3, 1) := by decide +kernel
theorem dY1_untell_2 : decode cY1_untell 2 = .ok (.iload_n 3, 1) := by decide +kernel
theorem dY1_untell_3 : decode cY1_untell 3 = .ok (.aload_n 0, 1) := by decide +kernel
theorem dY1_untell_4 : decode cY1_untell 4 = .ok (.getfield 13, 3) := by decide +kernel
theorem dY1_untell_7 : decode cY1_untell 7 = .ok (.if_icmp .ge 47, 3) := by decide +kernel
theorem dY1_untell_10 : decode cY1_untell 10 = .ok (.aload_n 0, 1) := by decide +kernel
theorem dY1_untell_11 : decode cY1_untell 11 = .ok (.getfield 19, 3) := by decide +kernel
theorem dY1_untell_14 : decode cY1_untell 14 = .ok (.iload_n 1, 1) := by decide +kernel
theorem dY1_untell_15 : decode cY1_untell 15 = .ok (.aload_n 0, 1) := by decide +kernel
theorem dY1_untell_16 : decode cY1_untell 16 = .ok (.getfield 13, 3) := by decide +kernel
theorem dY1_untell_19 : decode cY1_untell 19 = .ok (.imul, 1) := by decide +kernel
theorem dY1_untell_20 : decode cY1_untell 20 = .ok (.iload_n 3, 1) := by decide +kernel
theorem dY1_untell_21 : decode cY1_untell 21 = .ok (.iadd, 1) := by decide +kernel
theorem dY1_untell_22 : decode cY1_untell 22 = .ok (.aload_n 0, 1) := by decide +kernel
theorem dY1_untell_23 : decode cY1_untell 23 = .ok (.getfield 19, 3) := by decide +kernel
theorem dY1_untell_26 : decode cY1_untell 26 = .ok (.iload_n 1, 1) := by decide +kernel
theorem dY1_untell_27 : decode cY1_untell 27 = .ok (.aload_n 0, 1) := by decide +kernel
theorem dY1_untell_28 : decode cY1_untell 28 = .ok (.getfield 13, 3) := by decide +kernel
theorem dY1_untell_31 : decode cY1_untell 31 = .ok (.imul, 1) := by decide +kernel
theorem dY1_untell_32 : decode cY1_untell 32 = .ok (.iload_n 3, 1) := by decide +kernel
theorem dY1_untell_33 : decode cY1_untell 33 = .ok (.iadd, 1) := by decide +kernel
theorem dY1_untell_34 : decode cY1_untell 34 = .ok (.iaload, 1) := by decide +kernel
theorem dY1_untell_35 : decode cY1_untell 35 = .ok (.aload_n 0, 1) := by decide +kernel
theorem dY1_untell_36 : decode cY1_untell 36 = .ok (.iload_n 1, 1) := by decide +kernel
theorem dY1_untell_37 : decode cY1_untell 37 = .ok (.iload_n 3, 1) := by decide +kernel
theorem dY1_untell_38 : decode cY1_untell 38 = .ok (.iload_n 2, 1) := by decide +kernel
theorem dY1_untell_39 : decode cY1_untell 39 = .ok (.invokevirtual 46, 3) := by decide +kernel
theorem dY1_untell_42 : decode cY1_untell 42 = .ok (.iadd, 1) := by decide +kernel
theorem dY1_untell_43 : decode cY1_untell 43 = .ok (.sipush 255, 3) := by decide +kernel
theorem dY1_untell_46 : decode cY1_untell 46 = .ok (.iand, 1) := by decide +kernel
theorem dY1_untell_47 : decode cY1_untell 47 = .ok (.iastore, 1) := by decide +kernel
theorem dY1_untell_48 : decode cY1_untell 48 = .ok (.iinc 3 1, 3) := by decide +kernel
theorem dY1_untell_51 : decode cY1_untell 51 = .ok (.goto (-49), 3) := by decide +kernel
theorem dY1_untell_54 : decode cY1_untell 54 = .ok (.return_, 1) := by decide +kernel
theorem dY1_best_0 : decode cY1_best 0 = .ok (.aload_n 0, 1) := by decide +kernel
theorem dY1_best_1 : decode cY1_best 1 = .ok (.iconst 0, 1) := by decide +kernel
theorem dY1_best_2 : decode cY1_best 2 = .ok (.putfield 26, 3) := by decide +kernel
theorem dY1_best_5 : decode cY1_best 5 = .ok (.iconst 1, 1) := by decide +kernel
theorem dY1_best_6 : decode cY1_best 6 = .ok (.istore_n 1, 1) := by decide +kernel
theorem dY1_best_7 : decode cY1_best 7 = .ok (.iconst 0, 1) := by decide +kernel
theorem dY1_best_8 : decode cY1_best 8 = .ok (.istore_n 2, 1) := by decide +kernel
theorem dY1_best_9 : decode cY1_best 9 = .ok (.iload_n 2, 1) := by decide +kernel
theorem dY1_best_10 : decode cY1_best 10 = .ok (.aload_n 0, 1) := by decide +kernel
theorem dY1_best_11 : decode cY1_best 11 = .ok (.getfield 7, 3) := by decide +kernel
theorem dY1_best_14 : decode cY1_best 14 = .ok (.if_icmp .ge 74, 3) := by decide +kernel
theorem dY1_best_17 : decode cY1_best 17 = .ok (.iconst 0, 1) := by decide +kernel
theorem dY1_best_18 : decode cY1_best 18 = .ok (.istore_n 3, 1) := by decide +kernel
theorem dY1_best_19 : decode cY1_best 19 = .ok (.aload_n 0, 1) := by decide +kernel
theorem dY1_best_20 : decode cY1_best 20 = .ok (.iload_n 2, 1) := by decide +kernel
theorem dY1_best_21 : decode cY1_best 21 = .ok (.iconst 0, 1) := by decide +kernel
theorem dY1_best_22 : decode cY1_best 22 = .ok (.invokevirtual 53, 3) := by decide +kernel
theorem dY1_best_25 : decode cY1_best 25 = .ok (.istore 4, 2) := by decide +kernel
theorem dY1_best_27 : decode cY1_best 27 = .ok (.iconst 1, 1) := by decide +kernel
theorem dY1_best_28 : decode cY1_best 28 = .ok (.istore 5, 2) := by decide +kernel
theorem dY1_best_30 : decode cY1_best 30 = .ok (.iload 5, 2) := by decide +kernel
theorem dY1_best_32 : decode cY1_best 32 = .ok (.iconst 5, 1) := by decide +kernel
theorem dY1_best_33 : decode cY1_best 33 = .ok (.if_icmp .ge 35, 3) := by decide +kernel
theorem dY1_best_36 : decode cY1_best 36 = .ok (.aload_n 0, 1) := by decide +kernel
theorem dY1_best_37 : decode cY1_best 37 = .ok (.iload_n 2, 1) := by decide +kernel
theorem dY1_best_38 : decode cY1_best 38 = .ok (.iload 5, 2) := by decide +kernel
theorem dY1_best_40 : decode cY1_best 40 = .ok (.invokevirtual 53, 3) := by decide +kernel
theorem dY1_best_43 : decode cY1_best 43 = .ok (.istore 6, 2) := by decide +kernel
theorem dY1_best_45 : decode cY1_best 45 = .ok (.iload 6, 2) := by decide +kernel
theorem dY1_best_47 : decode cY1_best 47 = .ok (.iload 4, 2) := by decide +kernel
theorem dY1_best_49 : decode cY1_best 49 = .ok (.if_icmp .lt 6, 3) := by decide +kernel
theorem dY1_best_52 : decode cY1_best 52 = .ok (.goto 10, 3) := by decide +kernel
theorem dY1_best_55 : decode cY1_best 55 = .ok (.iload 6, 2) := by decide +kernel
theorem dY1_best_57 : decode cY1_best 57 = .ok (.istore 4, 2) := by decide +kernel
theorem dY1_best_59 : decode cY1_best 59 = .ok (.iload 5, 2) := by decide +kernel
theorem dY1_best_61 : decode cY1_best 61 = .ok (.istore_n 3, 1) := by decide +kernel
theorem dY1_best_62 : decode cY1_best 62 = .ok (.iinc 5 1, 3) := by decide +kernel
theorem dY1_best_65 : decode cY1_best 65 = .ok (.goto (-35), 3) := by decide +kernel
theorem dY1_best_68 : decode cY1_best 68 = .ok (.aload_n 0, 1) := by decide +kernel
theorem dY1_best_69 : decode cY1_best 69 = .ok (.iload_n 2, 1) := by decide +kernel
theorem dY1_best_70 : decode cY1_best 70 = .ok (.iload_n 3, 1) := by decide +kernel
theorem dY1_best_71 : decode cY1_best 71 = .ok (.invokevirtual 53, 3) := by decide +kernel
theorem dY1_best_74 : decode cY1_best 74 = .ok (.istore 4, 2) := by decide +kernel
theorem dY1_best_76 : decode cY1_best 76 = .ok (.iconst 5, 1) := by decide +kernel
theorem dY1_best_77 : decode cY1_best 77 = .ok (.iload_n 1, 1) := by decide +kernel
theorem dY1_best_78 : decode cY1_best 78 = .ok (.imul, 1) := by decide +kernel
theorem dY1_best_79 : decode cY1_best 79 = .ok (.iload_n 3, 1) := by decide +kernel
theorem dY1_best_80 : decode cY1_best 80 = .ok (.iadd, 1) := by decide +kernel
theorem dY1_best_81 : decode cY1_best 81 = .ok (.istore_n 1, 1) := by decide +kernel
theorem dY1_best_82 : decode cY1_best 82 = .ok (.iinc 2 1, 3) := by decide +kernel
theorem dY1_best_85 : decode cY1_best 85 = .ok (.goto (-76), 3) := by decide +kernel
theorem dY1_best_88 : decode cY1_best 88 = .ok (.iconst 0, 1) := by decide +kernel
theorem dY1_best_89 : decode cY1_best 89 = .ok (.istore_n 2, 1) := by decide +kernel
theorem dY1_best_90 : decode cY1_best 90 = .ok (.iload_n 2, 1) := by decide +kernel
theorem dY1_best_91 : decode cY1_best 91 = .ok (.aload_n 0, 1) := by decide +kernel
theorem dY1_best_92 : decode cY1_best 92 = .ok (.getfield 7, 3) := by decide +kernel
theorem dY1_best_95 : decode cY1_best 95 = .ok (.aload_n 0, 1) := by decide +kernel
theorem dY1_best_96 : decode cY1_best 96 = .ok (.getfield 13, 3) := by decide +kernel
theorem dY1_best_99 : decode cY1_best 99 = .ok (.imul, 1) := by decide +kernel
theorem dY1_best_100 : decode cY1_best 100 = .ok (.if_icmp .ge 21, 3) := by decide +kernel
theorem dY1_best_103 : decode cY1_best 103 = .ok (.aload_n 0, 1) := by decide +kernel
theorem dY1_best_104 : decode cY1_best 104 = .ok (.getfield 19, 3) := by decide +kernel
theorem dY1_best_107 : decode cY1_best 107 = .ok (.iload_n 2, 1) := by decide +kernel
theorem dY1_best_108 : decode cY1_best 108 = .ok (.aload_n 0, 1) := by decide +kernel
theorem dY1_best_109 : decode cY1_best 109 = .ok (.getfield 23, 3) := by decide +kernel
theorem dY1_best_112 : decode cY1_best 112 = .ok (.iload_n 2, 1) := by decide +kernel
theorem dY1_best_113 : decode cY1_best 113 = .ok (.iaload, 1) := by decide +kernel
theorem dY1_best_114 : decode cY1_best 114 = .ok (.iastore, 1) := by decide +kernel
theorem dY1_best_115 : decode cY1_best 115 = .ok (.iinc 2 1, 3) := by decide +kernel
theorem dY1_best_118 : decode cY1_best 118 = .ok (.goto (-28), 3) := by decide +kernel
theorem dY1_best_121 : decode cY1_best 121 = .ok (.iload_n 1, 1) := by decide +kernel
theorem dY1_best_122 : decode cY1_best 122 = .ok (.ireturn, 1) := by decide +kernel
theorem dY1_undo_0 : decode cY1_undo 0 = .ok (.aload_n 0, 1) := by decide +kernel
theorem dY1_undo_1 : decode cY1_undo 1 = .ok (.iconst 0, 1) := by decide +kernel
theorem dY1_undo_2 : decode cY1_undo 2 = .ok (.putfield 26, 3) := by decide +kernel
theorem dY1_undo_5 : decode cY1_undo 5 = .ok (.iload_n 1, 1) := by decide +kernel
theorem dY1_undo_6 : decode cY1_undo 6 = .ok (.ifCond .lt 9, 3) := by decide +kernel
theorem dY1_undo_9 : decode cY1_undo 9 = .ok (.iload_n 1, 1) := by decide +kernel
theorem dY1_undo_10 : decode cY1_undo 10 = .ok (.ldc 60, 2) := by decide +kernel
theorem dY1_undo_12 : decode cY1_undo 12 = .ok (.if_icmp .le 11, 3) := by decide +kernel
theorem dY1_undo_15 : decode cY1_undo 15 = .ok (.aload_n 0, 1) := by decide +kernel
theorem dY1_undo_16 : decode cY1_undo 16 = .ok (.iconst 1, 1) := by decide +kernel
theorem dY1_undo_17 : decode cY1_undo 17 = .ok (.putfield 26, 3) := by decide +kernel
theorem dY1_undo_20 : decode cY1_undo 20 = .ok (.goto 33, 3) := by decide +kernel
theorem dY1_undo_23 : decode cY1_undo 23 = .ok (.iload_n 1, 1) := by decide +kernel
theorem dY1_undo_24 : decode cY1_undo 24 = .ok (.istore_n 2, 1) := by decide +kernel
theorem dY1_undo_25 : decode cY1_undo 25 = .ok (.iconst 0, 1) := by decide +kernel
theorem dY1_undo_26 : decode cY1_undo 26 = .ok (.istore_n 3, 1) := by decide +kernel
theorem dY1_undo_27 : decode cY1_undo 27 = .ok (.iload_n 3, 1) := by decide +kernel
theorem dY1_undo_28 : decode cY1_undo 28 = .ok (.aload_n 0, 1) := by decide +kernel
theorem dY1_undo_29 : decode cY1_undo 29 = .ok (.getfield 7, 3) := by decide +kernel
theorem dY1_undo_32 : decode cY1_undo 32 = .ok (.if_icmp .ge 21, 3) := by decide +kernel
theorem dY1_undo_35 : decode cY1_undo 35 = .ok (.aload_n 0, 1) := by decide +kernel
theorem dY1_undo_36 : decode cY1_undo 36 = .ok (.iload_n 3, 1) := by decide +kernel
theorem dY1_undo_37 : decode cY1_undo 37 = .ok (.iload_n 2, 1) := by decide +kernel
theorem dY1_undo_38 : decode cY1_undo 38 = .ok (.iconst 5, 1) := by decide +kernel
theorem dY1_undo_39 : decode cY1_undo 39 = .ok (.irem, 1) := by decide +kernel
theorem dY1_undo_40 : decode cY1_undo 40 = .ok (.invokevirtual 56, 3) := by decide +kernel
theorem dY1_undo_43 : decode cY1_undo 43 = .ok (.iload_n 2, 1) := by decide +kernel
theorem dY1_undo_44 : decode cY1_undo 44 = .ok (.iconst 5, 1) := by decide +kernel
theorem dY1_undo_45 : decode cY1_undo 45 = .ok (.idiv, 1) := by decide +kernel
theorem dY1_undo_46 : decode cY1_undo 46 = .ok (.istore_n 2, 1) := by decide +kernel
theorem dY1_undo_47 : decode cY1_undo 47 = .ok (.iinc 3 1, 3) := by decide +kernel
theorem dY1_undo_50 : decode cY1_undo 50 = .ok (.goto (-23), 3) := by decide +kernel
theorem dY1_undo_53 : decode cY1_undo 53 = .ok (.return_, 1) := by decide +kernel
theorem dY1_hash_0 : decode cY1_hash 0 = .ok (.aload_n 0, 1) := by decide +kernel
theorem dY1_hash_1 : decode cY1_hash 1 = .ok (.iconst 0, 1) := by decide +kernel
theorem dY1_hash_2 : decode cY1_hash 2 = .ok (.putfield 26, 3) := by decide +kernel
theorem dY1_hash_5 : decode cY1_hash 5 = .ok (.iconst 1, 1) := by decide +kernel
theorem dY1_hash_6 : decode cY1_hash 6 = .ok (.istore_n 1, 1) := by decide +kernel
theorem dY1_hash_7 : decode cY1_hash 7 = .ok (.iconst 0, 1) := by decide +kernel
theorem dY1_hash_8 : decode cY1_hash 8 = .ok (.istore_n 2, 1) := by decide +kernel
theorem dY1_hash_9 : decode cY1_hash 9 = .ok (.iload_n 2, 1) := by decide +kernel
theorem dY1_hash_10 : decode cY1_hash 10 = .ok (.aload_n 0, 1) := by decide +kernel
theorem dY1_hash_11 : decode cY1_hash 11 = .ok (.getfield 7, 3) := by decide +kernel
theorem dY1_hash_14 : decode cY1_hash 14 = .ok (.aload_n 0, 1) := by decide +kernel
theorem dY1_hash_15 : decode cY1_hash 15 = .ok (.getfield 13, 3) := by decide +kernel
theorem dY1_hash_18 : decode cY1_hash 18 = .ok (.imul, 1) := by decide +kernel
theorem dY1_hash_19 : decode cY1_hash 19 = .ok (.if_icmp .ge 21, 3) := by decide +kernel
theorem dY1_hash_22 : decode cY1_hash 22 = .ok (.bipush 31, 2) := by decide +kernel
theorem dY1_hash_24 : decode cY1_hash 24 = .ok (.iload_n 1, 1) := by decide +kernel
theorem dY1_hash_25 : decode cY1_hash 25 = .ok (.imul, 1) := by decide +kernel
theorem dY1_hash_26 : decode cY1_hash 26 = .ok (.aload_n 0, 1) := by decide +kernel
theorem dY1_hash_27 : decode cY1_hash 27 = .ok (.getfield 19, 3) := by decide +kernel
theorem dY1_hash_30 : decode cY1_hash 30 = .ok (.iload_n 2, 1) := by decide +kernel
theorem dY1_hash_31 : decode cY1_hash 31 = .ok (.iaload, 1) := by decide +kernel
theorem dY1_hash_32 : decode cY1_hash 32 = .ok (.iadd, 1) := by decide +kernel
theorem dY1_hash_33 : decode cY1_hash 33 = .ok (.istore_n 1, 1) := by decide +kernel
theorem dY1_hash_34 : decode cY1_hash 34 = .ok (.iinc 2 1, 3) := by decide +kernel
theorem dY1_hash_37 : decode cY1_hash 37 = .ok (.goto (-28), 3) := by decide +kernel
theorem dY1_hash_40 : decode cY1_hash 40 = .ok (.iload_n 1, 1) := by decide +kernel
theorem dY1_hash_41 : decode cY1_hash 41 = .ok (.ireturn, 1) := by decide +kernel
theorem dY1_pass_0 : decode cY1_pass 0 = .ok (.aload_n 0, 1) := by decide +kernel
theorem dY1_pass_1 : decode cY1_pass 1 = .ok (.iconst 0, 1) := by decide +kernel
theorem dY1_pass_2 : decode cY1_pass 2 = .ok (.putfield 26, 3) := by decide +kernel
theorem dY1_pass_5 : decode cY1_pass 5 = .ok (.iload_n 1, 1) := by decide +kernel
theorem dY1_pass_6 : decode cY1_pass 6 = .ok (.ifCond .lt 31, 3) := by decide +kernel
theorem dY1_pass_9 : decode cY1_pass 9 = .ok (.iload_n 1, 1) := by decide +kernel
theorem dY1_pass_10 : decode cY1_pass 10 = .ok (.bipush 6, 2) := by decide +kernel
theorem dY1_pass_12 : decode cY1_pass 12 = .ok (.if_icmp .gt 25, 3) := by decide +kernel
theorem dY1_pass_15 : decode cY1_pass 15 = .ok (.iload_n 2, 1) := by decide +kernel
theorem dY1_pass_16 : decode cY1_pass 16 = .ok (.iconst 1, 1) := by decide +kernel
theorem dY1_pass_17 : decode cY1_pass 17 = .ok (.if_icmp .lt 20, 3) := by decide +kernel
theorem dY1_pass_20 : decode cY1_pass 20 = .ok (.iload_n 2, 1) := by decide +kernel
theorem dY1_pass_21 : decode cY1_pass 21 = .ok (.ldc 61, 2) := by decide +kernel
theorem dY1_pass_23 : decode cY1_pass 23 = .ok (.if_icmp .gt 14, 3) := by decide +kernel
theorem dY1_pass_26 : decode cY1_pass 26 = .ok (.iload_n 3, 1) := by decide +kernel
theorem dY1_pass_27 : decode cY1_pass 27 = .ok (.iconst 1, 1) := by decide +kernel
theorem dY1_pass_28 : decode cY1_pass 28 = .ok (.if_icmp .lt 9, 3) := by decide +kernel
theorem dY1_pass_31 : decode cY1_pass 31 = .ok (.iload_n 3, 1) := by decide +kernel
theorem dY1_pass_32 : decode cY1_pass 32 = .ok (.ldc 61, 2) := by decide +kernel
theorem dY1_pass_34 : decode cY1_pass 34 = .ok (.if_icmp .le 9, 3) := by decide +kernel
theorem dY1_pass_37 : decode cY1_pass 37 = .ok (.aload_n 0, 1) := by decide +kernel
theorem dY1_pass_38 : decode cY1_pass 38 = .ok (.iconst 1, 1) := by decide +kernel
theorem dY1_pass_39 : decode cY1_pass 39 = .ok (.invokevirtual 33, 3) := by decide +kernel
theorem dY1_pass_42 : decode cY1_pass 42 = .ok (.ireturn, 1) := by decide +kernel
theorem dY1_pass_43 : decode cY1_pass 43 = .ok (.iconst 0, 1) := by decide +kernel
theorem dY1_pass_44 : decode cY1_pass 44 = .ok (.istore 5, 2) := by decide +kernel
theorem dY1_pass_46 : decode cY1_pass 46 = .ok (.iconst 0, 1) := by decide +kernel
theorem dY1_pass_47 : decode cY1_pass 47 = .ok (.istore 6, 2) := by decide +kernel
theorem dY1_pass_49 : decode cY1_pass 49 = .ok (.iconst 0, 1) := by decide +kernel
theorem dY1_pass_50 : decode cY1_pass 50 = .ok (.istore 7, 2) := by decide +kernel
theorem dY1_pass_52 : decode cY1_pass 52 = .ok (.iload 7, 2) := by decide +kernel
theorem dY1_pass_54 : decode cY1_pass 54 = .ok (.iload_n 2, 1) := by decide +kernel
theorem dY1_pass_55 : decode cY1_pass 55 = .ok (.if_icmp .ge 29, 3) := by decide +kernel
theorem dY1_pass_58 : decode cY1_pass 58 = .ok (.iload 5, 2) := by decide +kernel
theorem dY1_pass_60 : decode cY1_pass 60 = .ok (.aload_n 0, 1) := by decide +kernel
theorem dY1_pass_61 : decode cY1_pass 61 = .ok (.iload_n 1, 1) := by decide +kernel
theorem dY1_pass_62 : decode cY1_pass 62 = .ok (.iload 7, 2) := by decide +kernel
theorem dY1_pass_64 : decode cY1_pass 64 = .ok (.invokevirtual 62, 3) := by decide +kernel
theorem dY1_pass_67 : decode cY1_pass 67 = .ok (.ifCond .eq 7, 3) := by decide +kernel
theorem dY1_pass_70 : decode cY1_pass 70 = .ok (.iconst 1, 1) := by decide +kernel
theorem dY1_pass_71 : decode cY1_pass 71 = .ok (.goto 4, 3) := by decide +kernel
theorem dY1_pass_74 : decode cY1_pass 74 = .ok (.iconst 0, 1) := by decide +kernel
theorem dY1_pass_75 : decode cY1_pass 75 = .ok (.iadd, 1) := by decide +kernel
theorem dY1_pass_76 : decode cY1_pass 76 = .ok (.istore 5, 2) := by decide +kernel
theorem dY1_pass_78 : decode cY1_pass 78 = .ok (.iinc 7 1, 3) := by decide +kernel
theorem dY1_pass_81 : decode cY1_pass 81 = .ok (.goto (-29), 3) := by decide +kernel
theorem dY1_pass_84 : decode cY1_pass 84 = .ok (.iconst 0, 1) := by decide +kernel
theorem dY1_pass_85 : decode cY1_pass 85 = .ok (.istore 7, 2) := by decide +kernel
theorem dY1_pass_87 : decode cY1_pass 87 = .ok (.iload 7, 2) := by decide +kernel
theorem dY1_pass_89 : decode cY1_pass 89 = .ok (.iload_n 3, 1) := by decide +kernel
theorem dY1_pass_90 : decode cY1_pass 90 = .ok (.if_icmp .ge 29, 3) := by decide +kernel
theorem dY1_pass_93 : decode cY1_pass 93 = .ok (.iload 6, 2) := by decide +kernel
theorem dY1_pass_95 : decode cY1_pass 95 = .ok (.aload_n 0, 1) := by decide +kernel
theorem dY1_pass_96 : decode cY1_pass 96 = .ok (.iload_n 1, 1) := by decide +kernel
theorem dY1_pass_97 : decode cY1_pass 97 = .ok (.iload 7, 2) := by decide +kernel
theorem dY1_pass_99 : decode cY1_pass 99 = .ok (.invokevirtual 65, 3) := by decide +kernel
theorem dY1_pass_102 : decode cY1_pass 102 = .ok (.ifCond .eq 7, 3) := by decide +kernel
theorem dY1_pass_105 : decode cY1_pass 105 = .ok (.iconst 1, 1) := by decide +kernel
theorem dY1_pass_106 : decode cY1_pass 106 = .ok (.goto 4, 3) := by decide +kernel
theorem dY1_pass_109 : decode cY1_pass 109 = .ok (.iconst 0, 1) := by decide +kernel
theorem dY1_pass_110 : decode cY1_pass 110 = .ok (.iadd, 1) := by decide +kernel
theorem dY1_pass_111 : decode cY1_pass 111 = .ok (.istore 6, 2) := by decide +kernel
theorem dY1_pass_113 : decode cY1_pass 113 = .ok (.iinc 7 1, 3) := by decide +kernel
theorem dY1_pass_116 : decode cY1_pass 116 = .ok (.goto (-29), 3) := by decide +kernel
theorem dY1_pass_119 : decode cY1_pass 119 = .ok (.iload 5, 2) := by decide +kernel
theorem dY1_pass_121 : decode cY1_pass 121 = .ok (.ifCond .eq 8, 3) := by decide +kernel
theorem dY1_pass_124 : decode cY1_pass 124 = .ok (.iload 6, 2) := by decide +kernel
theorem dY1_pass_126 : decode cY1_pass 126 = .ok (.ifCond .ne 7, 3) := by decide +kernel
theorem dY1_pass_129 : decode cY1_pass 129 = .ok (.iconst 0, 1) := by decide +kernel
theorem dY1_pass_130 : decode cY1_pass 130 = .ok (.goto 15, 3) := by decide +kernel
theorem dY1_pass_133 : decode cY1_pass 133 = .ok (.iload 4, 2) := by decide +kernel
theorem dY1_pass_135 : decode cY1_pass 135 = .ok (.ifCond .eq 8, 3) := by decide +kernel
theorem dY1_pass_138 : decode cY1_pass 138 = .ok (.iload 6, 2) := by decide +kernel
theorem dY1_pass_140 : decode cY1_pass 140 = .ok (.goto 5, 3) := by decide +kernel
theorem dY1_pass_143 : decode cY1_pass 143 = .ok (.iload 5, 2) := by decide +kernel
theorem dY1_pass_145 : decode cY1_pass 145 = .ok (.ireturn, 1) := by decide +kernel
theorem dY1_column_0 : decode cY1_column 0 = .ok (.iload_n 1, 1) := by decide +kernel
theorem dY1_column_1 : decode cY1_column 1 = .ok (.tableswitch 129 0 6 #[43, 102, 43, 116, 43, 129, 43], 43) := by decide +kernel
theorem dY1_column_44 : decode cY1_column 44 = .ok (.iload_n 1, 1) := by decide +kernel
theorem dY1_column_45 : decode cY1_column 45 = .ok (.ifCond .ne 18, 3) := by decide +kernel
theorem dY1_column_48 : decode cY1_column 48 = .ok (.iload_n 2, 1) := by decide +kernel
theorem dY1_column_49 : decode cY1_column 49 = .ok (.bipush 8, 2) := by decide +kernel
theorem dY1_column_51 : decode cY1_column 51 = .ok (.irem, 1) := by decide +kernel
theorem dY1_column_52 : decode cY1_column 52 = .ok (.ifCond .ne 7, 3) := by decide +kernel
theorem dY1_column_55 : decode cY1_column 55 = .ok (.iconst 1, 1) := by decide +kernel
theorem dY1_column_56 : decode cY1_column 56 = .ok (.goto 46, 3) := by decide +kernel
theorem dY1_column_59 : decode cY1_column 59 = .ok (.iconst 0, 1) := by decide +kernel
theorem dY1_column_60 : decode cY1_column 60 = .ok (.goto 42, 3) := by decide +kernel
theorem dY1_column_63 : decode cY1_column 63 = .ok (.iload_n 1, 1) := by decide +kernel
theorem dY1_column_64 : decode cY1_column 64 = .ok (.iconst 2, 1) := by decide +kernel
theorem dY1_column_65 : decode cY1_column 65 = .ok (.if_icmp .ne 17, 3) := by decide +kernel
theorem dY1_column_68 : decode cY1_column 68 = .ok (.iload_n 2, 1) := by decide +kernel
theorem dY1_column_69 : decode cY1_column 69 = .ok (.iconst 4, 1) := by decide +kernel
theorem dY1_column_70 : decode cY1_column 70 = .ok (.irem, 1) := by decide +kernel
theorem dY1_column_71 : decode cY1_column 71 = .ok (.ifCond .ne 7, 3) := by decide +kernel
theorem dY1_column_74 : decode cY1_column 74 = .ok (.iconst 1, 1) := by decide +kernel
theorem dY1_column_75 : decode cY1_column 75 = .ok (.goto 27, 3) := by decide +kernel
theorem dY1_column_78 : decode cY1_column 78 = .ok (.iconst 0, 1) := by decide +kernel
theorem dY1_column_79 : decode cY1_column 79 = .ok (.goto 23, 3) := by decide +kernel
theorem dY1_column_82 : decode cY1_column 82 = .ok (.iload_n 1, 1) := by decide +kernel
theorem dY1_column_83 : decode cY1_column 83 = .ok (.iconst 4, 1) := by decide +kernel
theorem dY1_column_84 : decode cY1_column 84 = .ok (.if_icmp .ne 17, 3) := by decide +kernel
theorem dY1_column_87 : decode cY1_column 87 = .ok (.iload_n 2, 1) := by decide +kernel
theorem dY1_column_88 : decode cY1_column 88 = .ok (.iconst 2, 1) := by decide +kernel
theorem dY1_column_89 : decode cY1_column 89 = .ok (.irem, 1) := by decide +kernel
theorem dY1_column_90 : decode cY1_column 90 = .ok (.ifCond .ne 7, 3) := by decide +kernel
theorem dY1_column_93 : decode cY1_column 93 = .ok (.iconst 1, 1) := by decide +kernel
theorem dY1_column_94 : decode cY1_column 94 = .ok (.goto 8, 3) := by decide +kernel
theorem dY1_column_97 : decode cY1_column 97 = .ok (.iconst 0, 1) := by decide +kernel
theorem dY1_column_98 : decode cY1_column 98 = .ok (.goto 4, 3) := by decide +kernel
theorem dY1_column_101 : decode cY1_column 101 = .ok (.iconst 1, 1) := by decide +kernel
theorem dY1_column_102 : decode cY1_column 102 = .ok (.ireturn, 1) := by decide +kernel
theorem dY1_column_103 : decode cY1_column 103 = .ok (.iload_n 2, 1) := by decide +kernel
theorem dY1_column_104 : decode cY1_column 104 = .ok (.bipush 8, 2) := by decide +kernel
theorem dY1_column_106 : decode cY1_column 106 = .ok (.irem, 1) := by decide +kernel
theorem dY1_column_107 : decode cY1_column 107 = .ok (.iconst 4, 1) := by decide +kernel
theorem dY1_column_108 : decode cY1_column 108 = .ok (.if_icmp .ne 7, 3) := by decide +kernel
theorem dY1_column_111 : decode cY1_column 111 = .ok (.iconst 1, 1) := by decide +kernel
theorem dY1_column_112 : decode cY1_column 112 = .ok (.goto 4, 3) := by decide +kernel
theorem dY1_column_115 : decode cY1_column 115 = .ok (.iconst 0, 1) := by decide +kernel
theorem dY1_column_116 : decode cY1_column 116 = .ok (.ireturn, 1) := by decide +kernel
theorem dY1_column_117 : decode cY1_column 117 = .ok (.iload_n 2, 1) := by decide +kernel
theorem dY1_column_118 : decode cY1_column 118 = .ok (.iconst 4, 1) := by decide +kernel
theorem dY1_column_119 : decode cY1_column 119 = .ok (.irem, 1) := by decide +kernel
theorem dY1_column_120 : decode cY1_column 120 = .ok (.iconst 2, 1) := by decide +kernel
theorem dY1_column_121 : decode cY1_column 121 = .ok (.if_icmp .ne 7, 3) := by decide +kernel
theorem dY1_column_124 : decode cY1_column 124 = .ok (.iconst 1, 1) := by decide +kernel
theorem dY1_column_125 : decode cY1_column 125 = .ok (.goto 4, 3) := by decide +kernel
theorem dY1_column_128 : decode cY1_column 128 = .ok (.iconst 0, 1) := by decide +kernel
theorem dY1_column_129 : decode cY1_column 129 = .ok (.ireturn, 1) := by decide +kernel
theorem dY1_column_130 : decode cY1_column 130 = .ok (.iload_n 2, 1) := by decide +kernel
theorem dY1_column_131 : decode cY1_column 131 = .ok (.iconst 2, 1) := by decide +kernel
theorem dY1_column_132 : decode cY1_column 132 = .ok (.irem, 1) := by decide +kernel
theorem dY1_column_133 : decode cY1_column 133 = .ok (.iconst 1, 1) := by decide +kernel
theorem dY1_column_134 : decode cY1_column 134 = .ok (.if_icmp .ne 7, 3) := by decide +kernel
theorem dY1_column_137 : decode cY1_column 137 = .ok (.iconst 1, 1) := by decide +kernel
theorem dY1_column_138 : decode cY1_column 138 = .ok (.goto 4, 3) := by decide +kernel
theorem dY1_column_141 : decode cY1_column 141 = .ok (.iconst 0, 1) := by decide +kernel
theorem dY1_column_142 : decode cY1_column 142 = .ok (.ireturn, 1) := by decide +kernel
theorem dY1_line_0 : decode cY1_line 0 = .ok (.iload_n 1, 1) := by decide +kernel
theorem dY1_line_1 : decode cY1_line 1 = .ok (.iconst 2, 1) := by decide +kernel
theorem dY1_line_2 : decode cY1_line 2 = .ok (.if_icmp .ge 18, 3) := by decide +kernel
theorem dY1_line_5 : decode cY1_line 5 = .ok (.iload_n 2, 1) := by decide +kernel
theorem dY1_line_6 : decode cY1_line 6 = .ok (.bipush 8, 2) := by decide +kernel
theorem dY1_line_8 : decode cY1_line 8 = .ok (.irem, 1) := by decide +kernel
theorem dY1_line_9 : decode cY1_line 9 = .ok (.ifCond .ne 7, 3) := by decide +kernel
theorem dY1_line_12 : decode cY1_line 12 = .ok (.iconst 1, 1) := by decide +kernel
theorem dY1_line_13 : decode cY1_line 13 = .ok (.goto 98, 3) := by decide +kernel
theorem dY1_line_16 : decode cY1_line 16 = .ok (.iconst 0, 1) := by decide +kernel
theorem dY1_line_17 : decode cY1_line 17 = .ok (.goto 94, 3) := by decide +kernel
theorem dY1_line_20 : decode cY1_line 20 = .ok (.iload_n 1, 1) := by decide +kernel
theorem dY1_line_21 : decode cY1_line 21 = .ok (.iconst 2, 1) := by decide +kernel
theorem dY1_line_22 : decode cY1_line 22 = .ok (.if_icmp .ne 19, 3) := by decide +kernel
theorem dY1_line_25 : decode cY1_line 25 = .ok (.iload_n 2, 1) := by decide +kernel
theorem dY1_line_26 : decode cY1_line 26 = .ok (.bipush 8, 2) := by decide +kernel
theorem dY1_line_28 : decode cY1_line 28 = .ok (.irem, 1) := by decide +kernel
theorem dY1_line_29 : decode cY1_line 29 = .ok (.iconst 4, 1) := by decide +kernel
theorem dY1_line_30 : decode cY1_line 30 = .ok (.if_icmp .ne 7, 3) := by decide +kernel
theorem dY1_line_33 : decode cY1_line 33 = .ok (.iconst 1, 1) := by decide +kernel
theorem dY1_line_34 : decode cY1_line 34 = .ok (.goto 77, 3) := by decide +kernel
theorem dY1_line_37 : decode cY1_line 37 = .ok (.iconst 0, 1) := by decide +kernel
theorem dY1_line_38 : decode cY1_line 38 = .ok (.goto 73, 3) := by decide +kernel
theorem dY1_line_41 : decode cY1_line 41 = .ok (.iload_n 1, 1) := by decide +kernel
theorem dY1_line_42 : decode cY1_line 42 = .ok (.iconst 3, 1) := by decide +kernel
theorem dY1_line_43 : decode cY1_line 43 = .ok (.if_icmp .ne 17, 3) := by decide +kernel
theorem dY1_line_46 : decode cY1_line 46 = .ok (.iload_n 2, 1) := by decide +kernel
theorem dY1_line_47 : decode cY1_line 47 = .ok (.iconst 4, 1) := by decide +kernel
theorem dY1_line_48 : decode cY1_line 48 = .ok (.irem, 1) := by decide +kernel
theorem dY1_line_49 : decode cY1_line 49 = .ok (.ifCond .ne 7, 3) := by decide +kernel
theorem dY1_line_52 : decode cY1_line 52 = .ok (.iconst 1, 1) := by decide +kernel
theorem dY1_line_53 : decode cY1_line 53 = .ok (.goto 58, 3) := by decide +kernel
theorem dY1_line_56 : decode cY1_line 56 = .ok (.iconst 0, 1) := by decide +kernel
theorem dY1_line_57 : decode cY1_line 57 = .ok (.goto 54, 3) := by decide +kernel
theorem dY1_line_60 : decode cY1_line 60 = .ok (.iload_n 1, 1) := by decide +kernel
theorem dY1_line_61 : decode cY1_line 61 = .ok (.iconst 4, 1) := by decide +kernel
theorem dY1_line_62 : decode cY1_line 62 = .ok (.if_icmp .ne 18, 3) := by decide +kernel
theorem dY1_line_65 : decode cY1_line 65 = .ok (.iload_n 2, 1) := by decide +kernel
theorem dY1_line_66 : decode cY1_line 66 = .ok (.iconst 4, 1) := by decide +kernel
theorem dY1_line_67 : decode cY1_line 67 = .ok (.irem, 1) := by decide +kernel
theorem dY1_line_68 : decode cY1_line 68 = .ok (.iconst 2, 1) := by decide +kernel
theorem dY1_line_69 : decode cY1_line 69 = .ok (.if_icmp .ne 7, 3) := by decide +kernel
theorem dY1_line_72 : decode cY1_line 72 = .ok (.iconst 1, 1) := by decide +kernel
theorem dY1_line_73 : decode cY1_line 73 = .ok (.goto 38, 3) := by decide +kernel
theorem dY1_line_76 : decode cY1_line 76 = .ok (.iconst 0, 1) := by decide +kernel
theorem dY1_line_77 : decode cY1_line 77 = .ok (.goto 34, 3) := by decide +kernel
theorem dY1_line_80 : decode cY1_line 80 = .ok (.iload_n 1, 1) := by decide +kernel
theorem dY1_line_81 : decode cY1_line 81 = .ok (.iconst 5, 1) := by decide +kernel
theorem dY1_line_82 : decode cY1_line 82 = .ok (.if_icmp .ne 17, 3) := by decide +kernel
theorem dY1_line_85 : decode cY1_line 85 = .ok (.iload_n 2, 1) := by decide +kernel
theorem dY1_line_86 : decode cY1_line 86 = .ok (.iconst 2, 1) := by decide +kernel
theorem dY1_line_87 : decode cY1_line 87 = .ok (.irem, 1) := by decide +kernel
theorem dY1_line_88 : decode cY1_line 88 = .ok (.ifCond .ne 7, 3) := by decide +kernel
theorem dY1_line_91 : decode cY1_line 91 = .ok (.iconst 1, 1) := by decide +kernel
theorem dY1_line_92 : decode cY1_line 92 = .ok (.goto 19, 3) := by decide +kernel
theorem dY1_line_95 : decode cY1_line 95 = .ok (.iconst 0, 1) := by decide +kernel
theorem dY1_line_96 : decode cY1_line 96 = .ok (.goto 15, 3) := by decide +kernel
theorem dY1_line_99 : decode cY1_line 99 = .ok (.iload_n 2, 1) := by decide +kernel
theorem dY1_line_100 : decode cY1_line 100 = .ok (.iconst 2, 1) := by decide +kernel
theorem dY1_line_101 : decode cY1_line 101 = .ok (.irem, 1) := by decide +kernel
theorem dY1_line_102 : decode cY1_line 102 = .ok (.iconst 1, 1) := by decide +kernel
theorem dY1_line_103 : decode cY1_line 103 = .ok (.if_icmp .ne 7, 3) := by decide +kernel
theorem dY1_line_106 : decode cY1_line 106 = .ok (.iconst 1, 1) := by decide +kernel
theorem dY1_line_107 : decode cY1_line 107 = .ok (.goto 4, 3) := by decide +kernel
theorem dY1_line_110 : decode cY1_line 110 = .ok (.iconst 0, 1) := by decide +kernel
theorem dY1_line_111 : decode cY1_line 111 = .ok (.ireturn, 1) := by decide +kernel
theorem dY1_passOf_0 : decode cY1_passOf 0 = .ok (.aload_n 0, 1) := by decide +kernel
theorem dY1_passOf_1 : decode cY1_passOf 1 = .ok (.iconst 0, 1) := by decide +kernel
theorem dY1_passOf_2 : decode cY1_passOf 2 = .ok (.putfield 26, 3) := by decide +kernel
theorem dY1_passOf_5 : decode cY1_passOf 5 = .ok (.iload_n 1, 1) := by decide +kernel
theorem dY1_passOf_6 : decode cY1_passOf 6 = .ok (.ifCond .lt 19, 3) := by decide +kernel
theorem dY1_passOf_9 : decode cY1_passOf 9 = .ok (.iload_n 1, 1) := by decide +kernel
theorem dY1_passOf_10 : decode cY1_passOf 10 = .ok (.ldc 68, 2) := by decide +kernel
theorem dY1_passOf_12 : decode cY1_passOf 12 = .ok (.if_icmp .gt 13, 3) := by decide +kernel
theorem dY1_passOf_15 : decode cY1_passOf 15 = .ok (.iload_n 2, 1) := by decide +kernel
theorem dY1_passOf_16 : decode cY1_passOf 16 = .ok (.ifCond .lt 9, 3) := by decide +kernel
theorem dY1_passOf_19 : decode cY1_passOf 19 = .ok (.iload_n 2, 1) := by decide +kernel
theorem dY1_passOf_20 : decode cY1_passOf 20 = .ok (.ldc 68, 2) := by decide +kernel
theorem dY1_passOf_22 : decode cY1_passOf 22 = .ok (.if_icmp .le 9, 3) := by decide +kernel
theorem dY1_passOf_25 : decode cY1_passOf 25 = .ok (.aload_n 0, 1) := by decide +kernel
theorem dY1_passOf_26 : decode cY1_passOf 26 = .ok (.iconst 1, 1) := by decide +kernel
theorem dY1_passOf_27 : decode cY1_passOf 27 = .ok (.invokevirtual 33, 3) := by decide +kernel
theorem dY1_passOf_30 : decode cY1_passOf 30 = .ok (.ireturn, 1) := by decide +kernel
theorem dY1_passOf_31 : decode cY1_passOf 31 = .ok (.iconst 0, 1) := by decide +kernel
theorem dY1_passOf_32 : decode cY1_passOf 32 = .ok (.istore_n 3, 1) := by decide +kernel
theorem dY1_passOf_33 : decode cY1_passOf 33 = .ok (.aload_n 0, 1) := by decide +kernel
theorem dY1_passOf_34 : decode cY1_passOf 34 = .ok (.iload_n 3, 1) := by decide +kernel
theorem dY1_passOf_35 : decode cY1_passOf 35 = .ok (.iload_n 1, 1) := by decide +kernel
theorem dY1_passOf_36 : decode cY1_passOf 36 = .ok (.invokevirtual 62, 3) := by decide +kernel
theorem dY1_passOf_39 : decode cY1_passOf 39 = .ok (.ifCond .eq 12, 3) := by decide +kernel
theorem dY1_passOf_42 : decode cY1_passOf 42 = .ok (.aload_n 0, 1) := by decide +kernel
theorem dY1_passOf_43 : decode cY1_passOf 43 = .ok (.iload_n 3, 1) := by decide +kernel
theorem dY1_passOf_44 : decode cY1_passOf 44 = .ok (.iload_n 2, 1) := by decide +kernel
theorem dY1_passOf_45 : decode cY1_passOf 45 = .ok (.invokevirtual 65, 3) := by decide +kernel
theorem dY1_passOf_48 : decode cY1_passOf 48 = .ok (.ifCond .ne 9, 3) := by decide +kernel
theorem dY1_passOf_51 : decode cY1_passOf 51 = .ok (.iinc 3 1, 3) := by decide +kernel
theorem dY1_passOf_54 : decode cY1_passOf 54 = .ok (.goto (-21), 3) := by decide +kernel
theorem dY1_passOf_57 : decode cY1_passOf 57 = .ok (.iload_n 3, 1) := by decide +kernel
theorem dY1_passOf_58 : decode cY1_passOf 58 = .ok (.ireturn, 1) := by decide +kernel
end
section
abbrev rw_cl : List vw_C := [(RX0, TX0, 4), (RX1, TY1, 6)]
theorem rw_loop {p : Program} {l : Launch} {e : Env} {R : Room} {s : State} {m : MethodId} {args : Array Value} {below : List Frame} {meth : Method} {c : Code} {H : Heap} {locs : List Loc} {cells slots : Nat} {Q : State → Prop} {pc : Nat} {rest : List Value} {σ : Type} (μ : σ → Nat) (I : σ → Array Slot → Prop)
    (step : ∀ (x : σ) (ls : Array Slot), I x ls → (∀ (y : σ) (ls : Array Slot), μ y < μ x → I y ls → W p l e R s m args below meth c H locs cells slots Q (F0 m pc ls rest)) → W p l e R s m args below meth c H locs cells slots Q (F0 m pc ls rest))
    (x : σ) {ls : Array Slot} (h : I x ls) : W p l e R s m args below meth c H locs cells slots Q (F0 m pc ls rest) := by
  have key : ∀ (n : Nat) (x : σ) (ls : Array Slot), μ x = n → I x ls → W p l e R s m args below meth c H locs cells slots Q (F0 m pc ls rest) := by
    intro n
    induction n using Nat.strongRecOn with
    | _ n ih =>
      intro x ls hn hI
      exact step x ls hI (fun y ls' hy hI' => ih (μ y) (by omega) y ls' rfl hI')
  exact key (μ x) x ls rfl h
theorem rw_loopH {p : Program} {l : Launch} {e : Env} {R : Room} {s : State} {m : MethodId} {args : Array Value} {below : List Frame} {meth : Method} {c : Code} {H : Heap} {locs : List Loc} {cells slots : Nat} {Q : State → Prop} {pc : Nat} {rest : List Value} {σ : Type} (μ : σ → Nat) (I : σ → Array Slot → Heap → List Loc → Prop)
    (step : ∀ (x : σ) (ls : Array Slot) (H : Heap) (locs : List Loc), I x ls H locs → (∀ (y : σ) (ls : Array Slot) (H : Heap) (locs : List Loc), μ y < μ x → I y ls H locs → W p l e R s m args below meth c H locs cells slots Q (F0 m pc ls rest)) → W p l e R s m args below meth c H locs cells slots Q (F0 m pc ls rest))
    (x : σ) {ls : Array Slot} (h : I x ls H locs) : W p l e R s m args below meth c H locs cells slots Q (F0 m pc ls rest) := by
  have key : ∀ (n : Nat) (x : σ) (ls : Array Slot) (H : Heap) (locs : List Loc), μ x = n → I x ls H locs → W p l e R s m args below meth c H locs cells slots Q (F0 m pc ls rest) := by
    intro n
    induction n using Nat.strongRecOn with
    | _ n ih =>
      intro x ls H locs hn hI
      exact step x ls H locs hI (fun y ls' H' locs' hy hI' => ih (μ y) (by omega) y ls' H' locs' rfl hI')
  exact key (μ x) x ls H locs rfl h
theorem rf_dn0 {j : Nat} (hj : j ≤ 4096) (h : nI j - 1 < 0) : j = 0 := by
  rcases Nat.eq_zero_or_pos j with q | q
  · exact q
  · obtain ⟨z, rfl⟩ : ∃ z, j = z + 1 := ⟨j - 1, by omega⟩
    rw [nI_pred] at h
    exact absurd h (nI_pos (by omega))
theorem rf_dn1 {j : Nat} (h : ¬ nI j - 1 < 0) : ∃ z, j = z + 1 := by
  rcases Nat.eq_zero_or_pos j with q | q
  · subst q
    exact absurd (by decide +kernel) h
  · exact ⟨j - 1, by omega⟩
theorem rf_inc (n : Nat) : nI n + Int32.ofInt 1 = nI (n + 1) := nI_1 n
theorem rf_dec (n : Nat) : nI n + Int32.ofInt (-1) = nI n - 1 := by
  rw [Int32.sub_eq_add_neg]
  rfl
theorem rf_hi {y rc : Nat} (h : y < rc) (hr : rc ≤ 4096) : ¬ nI rc - 1 < nI y := by
  obtain ⟨z, rfl⟩ : ∃ z, rc = z + 1 := ⟨rc - 1, by omega⟩
  rw [nI_pred]
  exact nI_nlt (by omega) (by omega)
theorem rf_min {rc : Nat} (h : rc ≤ 4096) : (if (8 : Int32) < nI rc then 8 else nI rc) = nI (min rc 8) := by
  show (if nI 8 < nI rc then nI 8 else nI rc) = nI (min rc 8)
  by_cases q : 8 < rc
  · rw [if_pos (nI_lt (a := 8) q (by omega)), Nat.min_eq_right (by omega)]
  · rw [if_neg (nI_nlt (a := 8) (b := rc) (by omega) (by omega)), Nat.min_eq_left (by omega)]
abbrev rw_W (h0 ab : Nat) (cI : ClassId) (rc rl ps : Nat) (f : Nat → Int32) : va_W := [(h0, .inr (0, [.ref ab, .int (nI rc), .int (nI rl), .int (nI ps)])), (ab, .inl (cI, 4096, .inl f))]
abbrev rw_pre (dC : Nat → ClassId) (dI : Nat → Nat → Nat) (cI : ClassId) (h0 ab rc rl ps : Nat) (f : Nat → Int32) (U : State) : Prop := va_P (dC, dI) rw_cl (rw_W h0 ab cI rc rl ps f) U.heap ∧ va_K (dC, dI) rw_cl [(cI, .int)] U
abbrev rw_preD (dC : Nat → ClassId) (dI : Nat → Nat → Nat) (cI : ClassId) (h0 ab rc rl ps : Nat) (f : Nat → Int32) (sz : Nat) (U : State) : Prop := U.heap.size = sz ∧ va_P (dC, dI) rw_cl (rw_W h0 ab cI rc rl ps f) U.heap ∧ va_K (dC, dI) rw_cl [(cI, .int)] U ∧ va_D (fun _ => True) (rw_W h0 ab cI rc rl ps f)
abbrev rw_B (dC : Nat → ClassId) (dI : Nat → Nat → Nat) (cI : ClassId) (h0 ab rc rl ps : Nat) (f : Nat → Int32) (A : Nat → Prop) (t : State) : Prop := va_P (dC, dI) rw_cl (rw_W h0 ab cI rc rl ps f) t.heap ∧ va_K (dC, dI) rw_cl [(cI, .int)] t ∧ va_D A (rw_W h0 ab cI rc rl ps f)
abbrev rv_W (h0 b1 b2 : Nat) (cI cJ : ClassId) (fl : Int32) (rc rl ps : Nat) (g t : Nat → Int32) : va_W := [(h0, .inr (1, [.int fl, .int (nI rc), .int (nI rl), .int (nI ps), .ref b1, .ref b2])), (b1, .inl (cI, 4096, .inl g)), (b2, .inl (cJ, 4096, .inl t))]
abbrev rv_pre (dC : Nat → ClassId) (dI : Nat → Nat → Nat) (cI cJ : ClassId) (h0 b1 b2 : Nat) (fl : Int32) (rc rl ps : Nat) (g t : Nat → Int32) (U : State) : Prop := va_P (dC, dI) rw_cl (rv_W h0 b1 b2 cI cJ fl rc rl ps g t) U.heap ∧ va_K (dC, dI) rw_cl [(cI, .int), (cJ, .int)] U
abbrev rv_preD (dC : Nat → ClassId) (dI : Nat → Nat → Nat) (cI cJ : ClassId) (h0 b1 b2 : Nat) (fl : Int32) (rc rl ps : Nat) (g t : Nat → Int32) (sz : Nat) (U : State) : Prop := U.heap.size = sz ∧ va_P (dC, dI) rw_cl (rv_W h0 b1 b2 cI cJ fl rc rl ps g t) U.heap ∧ va_K (dC, dI) rw_cl [(cI, .int), (cJ, .int)] U ∧ va_D (fun _ => True) (rv_W h0 b1 b2 cI cJ fl rc rl ps g t)
abbrev rv_B (dC : Nat → ClassId) (dI : Nat → Nat → Nat) (cI cJ : ClassId) (h0 b1 b2 : Nat) (fl : Int32) (rc rl ps : Nat) (g t : Nat → Int32) (A : Nat → Prop) (u : State) : Prop := va_P (dC, dI) rw_cl (rv_W h0 b1 b2 cI cJ fl rc rl ps g t) u.heap ∧ va_K (dC, dI) rw_cl [(cI, .int), (cJ, .int)] u ∧ va_D A (rv_W h0 b1 b2 cI cJ fl rc rl ps g t)
def rf_op (h n s : Int32) : Prop := ¬ h < 1 ∧ ¬ n < 1 ∧ ¬ 4096 < h ∧ ¬ 4096 < n ∧ ¬ 4096 < h * n ∧ ¬ s < 1 ∧ ¬ 8 < s
theorem rf_of {x : Int32} {a b : Nat} {A B : Int32} (hA : A.toInt = a) (hB : B.toInt = b) (h1 : ¬ x < A) (h2 : ¬ B < x) : ∃ j, a ≤ j ∧ j ≤ b ∧ x = nI j := by
  rw [Int32.lt_iff_toInt_lt, hA] at h1
  rw [Int32.lt_iff_toInt_lt, hB] at h2
  have h3 := x.toInt_lt
  refine ⟨x.toInt.toNat, by omega, by omega, Int32.toInt_inj.mp ?_⟩
  rw [nI_toInt (by omega)]
  omega
theorem rf_op_ok {h n s : Int32} (H : rf_op h n s) : ∃ a b c, h = nI a ∧ n = nI b ∧ s = nI c ∧ rf_ok a b c := by
  obtain ⟨h1, h2, h3, h4, h5, h6, h7⟩ := H
  obtain ⟨a, a1, a2, rfl⟩ := rf_of (a := 1) (b := 4096) (by decide) (by decide) h1 h3
  obtain ⟨b, b1, b2, rfl⟩ := rf_of (a := 1) (b := 4096) (by decide) (by decide) h2 h4
  obtain ⟨c, c1, c2, rfl⟩ := rf_of (a := 1) (b := 8) (by decide) (by decide) h6 h7
  refine ⟨a, b, c, rfl, rfl, rfl, a1, b1, ?_, c1, c2⟩
  rw [rf_mul] at h5
  have h8 : a * b ≤ 4096 * 4096 := Nat.mul_le_mul a2 b2
  rcases Nat.lt_or_ge 4096 (a * b) with q | q
  · exact absurd (nI_lt (a := 4096) q (by omega)) h5
  · exact q
def rf_ot (rc rl : Nat) (y i : Int32) : Prop := y < 0 ∨ nI rc ≤ y ∨ i < 0 ∨ nI rl ≤ i
def rf_bd (rc : Nat) (y q : Int32) : Prop := y < 0 ∨ nI rc ≤ y ∨ q < 0 ∨ 4 < q
theorem rf_p_p (g t v : Nat → Int32) (lo hi : Nat) : rf_p g (rf_p t v lo hi) lo hi = rf_p g v lo hi := by
  funext k
  by_cases h : lo ≤ k ∧ k < hi
  · rw [rf_p_in h.1 h.2, rf_p_in h.1 h.2, rf_p_in h.1 h.2]
  · rw [rf_p_out (by omega), rf_p_out (by omega)]
theorem rf_ot_n {rc rl y i : Nat} (hc : rc ≤ 4096) (hl : rl ≤ 4096) (hy : y < rc) (hi : i < rl) : ¬ rf_ot rc rl (nI y) (nI i) := by
  rintro (h | h | h | h)
  · exact nI_pos (by omega) h
  · exact nI_ge hy (by omega) h
  · exact nI_pos (by omega) h
  · exact nI_ge hi (by omega) h
theorem rf_bd_n {rc y q : Nat} (hc : rc ≤ 4096) (hy : y < rc) (hq : q ≤ 4) : ¬ rf_bd rc (nI y) (nI q) := by
  rintro (h | h | h | h)
  · exact nI_pos (by omega) h
  · exact nI_ge hy (by omega) h
  · exact nI_pos (by omega) h
  · exact nI_nlt (a := 4) hq (by omega) h
def rf_pr (k w h : Nat) (b : Int32) : Int32 := if rf_n (rf_sx k) (rf_fx k) w = 0 then 0 else if rf_n (rf_sy k) (rf_fy k) h = 0 then 0 else if b = 0 then nI (rf_n (rf_sx k) (rf_fx k) w) else nI (rf_n (rf_sy k) (rf_fy k) h)
def rf_pw (k w h : Int32) : Prop := k < 0 ∨ 6 < k ∨ w < 1 ∨ 100000 < w ∨ h < 1 ∨ 100000 < h
def rf_xy (x y : Int32) : Prop := x < 0 ∨ 99999 < x ∨ y < 0 ∨ 99999 < y
theorem rf_n0 {n : Nat} (h : n < 2 ^ 31) : nI n = 0 ↔ n = 0 := nI_eq (b := 0) h (by omega)

theorem rf_pax {k w : Nat} (hk : k ≤ 6) (hw : w ≤ 100000) : (nI w - nI (rf_fx k) + nI (rf_sx k) - 1) / nI (rf_sx k) = nI (rf_n (rf_sx k) (rf_fx k) w) := by
  rw [rf_n_x hk]
  rcases rf_7 hk with rfl | rfl | rfl | rfl | rfl | rfl | rfl <;> exact rf_pa hw (by decide) (by decide)
theorem rf_pay {k w : Nat} (hk : k ≤ 6) (hw : w ≤ 100000) : (nI w - nI (rf_fy k) + nI (rf_sy k) - 1) / nI (rf_sy k) = nI (rf_n (rf_sy k) (rf_fy k) w) := by
  rw [rf_n_y hk]
  rcases rf_7 hk with rfl | rfl | rfl | rfl | rfl | rfl | rfl <;> exact rf_pa hw (by decide) (by decide)
theorem rf_s8 {k : Nat} (hk : k ≤ 6) : 0 < rf_sx k ∧ rf_sx k ≤ 8 ∧ 0 < rf_sy k ∧ rf_sy k ≤ 8 ∧ rf_fx k ≤ 8 ∧ rf_fy k ≤ 8 := by
  rcases rf_7 hk with rfl | rfl | rfl | rfl | rfl | rfl | rfl <;> decide
abbrev rw_stA (A : Nat → Prop) (t1 t2 t3 t4 : Nat) (U : State) (H : Heap) : Prop := va_Z "RowFilters" "PASS_FROM_X" "[I" (.ref t1) A U H ∧ va_T .int t1 7 (fun k => .int (nI (rf_fx k))) A U H ∧ va_Z "RowFilters" "PASS_FROM_Y" "[I" (.ref t2) A U H ∧ va_T .int t2 7 (fun k => .int (nI (rf_fy k))) A U H ∧ va_Z "RowFilters" "PASS_STEP_X" "[I" (.ref t3) A U H ∧ va_T .int t3 7 (fun k => .int (nI (rf_sx k))) A U H ∧ va_Z "RowFilters" "PASS_STEP_Y" "[I" (.ref t4) A U H ∧ va_T .int t4 7 (fun k => .int (nI (rf_sy k))) A U H
abbrev rw_st (t1 t2 t3 t4 : Nat) (U : State) : Prop := rw_stA (fun _ => False) t1 t2 t3 t4 U U.heap
theorem rw_st.to {A : Nat → Prop} {t1 t2 t3 t4 : Nat} {s U : State} {H : Heap} {locs : List Loc} (h : rw_stA A t1 t2 t3 t4 s s.heap) (hS : va_S A s.heap H locs) (hU : U.heap = H) (hW : s.WarmedH U.vm) : rw_st t1 t2 t3 t4 U := by
  obtain ⟨a1, b1, a2, b2, a3, b3, a4, b4⟩ := h
  unfold rw_st rw_stA
  rw [hU]
  exact ⟨(va_Z.moved hW.alike (a1.kept hS.2.1)).narrow (fun _ z => z.elim), (va_T.moved hW.alike (b1.kept hS.2.1)).narrow (fun _ z => z.elim), (va_Z.moved hW.alike (a2.kept hS.2.1)).narrow (fun _ z => z.elim), (va_T.moved hW.alike (b2.kept hS.2.1)).narrow (fun _ z => z.elim), (va_Z.moved hW.alike (a3.kept hS.2.1)).narrow (fun _ z => z.elim), (va_T.moved hW.alike (b3.kept hS.2.1)).narrow (fun _ z => z.elim), (va_Z.moved hW.alike (a4.kept hS.2.1)).narrow (fun _ z => z.elim), (va_T.moved hW.alike (b4.kept hS.2.1)).narrow (fun _ z => z.elim)⟩
theorem rw_st.call {t1 t2 t3 t4 : Nat} {U : State} {g : JFrame} {mk : MethodId} {a : Array Value} (h : rw_st t1 t2 t3 t4 U) : rw_st t1 t2 t3 t4 (U.calling g mk a) := by
  obtain ⟨a1, b1, a2, b2, a3, b3, a4, b4⟩ := h
  have hv : U.vm.Alike (U.calling g mk a).vm := Vm.Alike.refl U.vm
  exact ⟨va_Z.moved hv a1, va_T.moved hv b1, va_Z.moved hv a2, va_T.moved hv b2, va_Z.moved hv a3, va_T.moved hv b3, va_Z.moved hv a4, va_T.moved hv b4⟩
end
section
set_option maxHeartbeats 4000000 in
set_option maxRecDepth 100000 in
theorem c_X0_byteOrZero (l : Launch) (dC : Nat → ClassId) (dI : Nat → Nat → Nat) (cI : ClassId) (h0 ab rc rl ps : Nat) (f : Nat → Int32) (y i : Int32) (hin : ¬ y < 0 → ¬ i < 0 → vp_in (y * nI rl + i) 4096) : Met l yX0_byteOrZero wsX0_byteOrZero ({ frames := 0, cells := 0, slots := 0, locals := 0 }) (va_Pc [.ref h0, .int y, .int i] (rw_pre dC dI cI h0 ab rc rl ps f)) (vp_Si (fun r => r = rf_z f rl y i)) 0 0 (fun _ => False) := by
  refine Met.ofW (cc := cX0_byteOrZero) (maxL := 3) (ret := (some .int)) (by decide) rfl ?_
  intro p e s m args below meth c s₁ B hml hv
  obtain ⟨rfl, hP, hK⟩ := hv
  have hx := B.exec
  have hb := B.bytes
  have hr := B.returns
  have hts := atoms_spec (ws := wsX0_byteOrZero) B.pre
  have hown : s.vm.findClass RX0 = some m.cls := findClass_of_methodNamed B.named
  have hlocks := B.notSynchronized
  have hP : va_P (dC, dI) rw_cl (rw_W h0 ab cI rc rl ps f) s.heap := hP
  have hl := lv_entry ([.ref h0, .int y, .int i]) (n := 3) (Nat.le_of_ble_eq_true rfl)
  rw [lg_entry_eq]
  generalize (lg_sl ([.ref h0, .int y, .int i]) ++ List.replicate (3 - (lg_sl ([.ref h0, .int y, .int i])).length) Slot.unset).toArray = ls at hl ⊢
  have hl : lv_has ls 3 [(0, .ref h0), (1, .int y), (2, .int i)] := hl
  refine lv_iload_n hx hb dX0_byteOrZero_0 rfl (lv_at hl 1 rfl) ?_
  refine lv_if_lt (tgt := 8) hx hb dX0_byteOrZero_1 (by decide) (fun hy => ?_) (fun hy => ?_)
  · refine lv_iconst (v := 0) hx hb dX0_byteOrZero_8 (by decide) ?_
    refine lv_goto (tgt := 25) hx hb dX0_byteOrZero_9 (by decide) ?_
    exact W.iret (v := 0) hx hb hr (fun t ht hW => ⟨0, rfl, by rw [rf_z, if_pos hy], ht⟩) (fun q h => by cases h) dX0_byteOrZero_25
  · refine lv_iload_n hx hb dX0_byteOrZero_4 rfl (lv_at hl 2 rfl) ?_
    refine lv_if_ge (tgt := 12) hx hb dX0_byteOrZero_5 (by decide) (fun hi => ?_) (fun hi => ?_)
    · refine lv_aload_n hx hb dX0_byteOrZero_12 rfl (lv_at hl 0 rfl) ?_
      refine va_get (D := (dC, dI)) (ci := 0) (v := .ref ab) (C := RX0) (T := TX0) (N := 4) hx hb hts (by decide +kernel) hown hK hP 0 rfl rfl 0 (by decide) (hts (.fieldLink RX0 9 "RowFilters" "bytes" "[I") (by decide +kernel)) (fun _ h9 => h9) rfl dX0_byteOrZero_13 ?_
      refine lv_iload_n hx hb dX0_byteOrZero_16 rfl (lv_at hl 1 rfl) ?_
      refine lv_aload_n hx hb dX0_byteOrZero_17 rfl (lv_at hl 0 rfl) ?_
      refine va_get (D := (dC, dI)) (ci := 0) (v := .int (nI rl)) (C := RX0) (T := TX0) (N := 4) hx hb hts (by decide +kernel) hown hK hP 0 rfl rfl 2 (by decide) (hts (.fieldLink RX0 17 "RowFilters" "rowLength" "I") (by decide +kernel)) (fun _ h9 => h9) rfl dX0_byteOrZero_18 ?_
      refine lv_imul hx hb dX0_byteOrZero_21 ?_
      refine lv_iload_n hx hb dX0_byteOrZero_22 rfl (lv_at hl 2 rfl) ?_
      refine lv_iadd hx hb dX0_byteOrZero_23 ?_
      refine va_iald hx hb hK hP 1 0 rfl rfl (hin hy (Int32.not_lt.mpr hi)) dX0_byteOrZero_24 ?_
      exact W.iret (v := (f ((y * (nI rl)) + i).toNatClampNeg)) hx hb hr (fun t ht hW => ⟨(f ((y * (nI rl)) + i).toNatClampNeg), rfl, by rw [rf_z, if_neg hy, if_neg (Int32.not_lt.mpr hi)], ht⟩) (fun q h => by cases h) dX0_byteOrZero_25
    · refine lv_iconst (v := 0) hx hb dX0_byteOrZero_8 (by decide) ?_
      refine lv_goto (tgt := 25) hx hb dX0_byteOrZero_9 (by decide) ?_
      exact W.iret (v := 0) hx hb hr (fun t ht hW => ⟨0, rfl, by rw [rf_z, if_neg hy, if_pos (Int32.not_le.mp hi)], ht⟩) (fun q h => by cases h) dX0_byteOrZero_25
set_option maxHeartbeats 4000000 in
set_option maxRecDepth 100000 in
theorem c_X0_nearest (l : Launch) (a b z : Int32) : Met l yX0_nearest wsX0_nearest ({ frames := 1, cells := 0, slots := 0, locals := 13 }) (va_Pc [.int a, .int b, .int z] (fun _ => True)) (vp_Si (fun r => r = rf_near a b z)) 0 0 (fun _ => False) := by
  refine Met.ofW (cc := cX0_nearest) (maxL := 7) (ret := (some .int)) (by decide) rfl ?_
  intro p e s m args below meth c s₁ B hml hv
  obtain ⟨rfl, -⟩ := hv
  have hx := B.exec
  have hb := B.bytes
  have hr := B.returns
  have hts := atoms_spec (ws := wsX0_nearest) B.pre
  have hown : s.vm.findClass RX0 = some m.cls := findClass_of_methodNamed B.named
  have hlocks := B.notSynchronized
  have hl := lv_entry ([.int a, .int b, .int z]) (n := 7) (Nat.le_of_ble_eq_true rfl)
  rw [lg_entry_eq]
  generalize (lg_sl ([.int a, .int b, .int z]) ++ List.replicate (7 - (lg_sl ([.int a, .int b, .int z])).length) Slot.unset).toArray = ls at hl ⊢
  have hl : lv_has ls 7 [(0, .int a), (1, .int b), (2, .int z)] := hl
  refine lv_iload_n hx hb dX0_nearest_0 rfl (lv_at hl 0 rfl) ?_
  refine lv_iload_n hx hb dX0_nearest_1 rfl (lv_at hl 1 rfl) ?_
  refine lv_iadd hx hb dX0_nearest_2 ?_
  refine lv_iload_n hx hb dX0_nearest_3 rfl (lv_at hl 2 rfl) ?_
  refine lv_isub hx hb dX0_nearest_4 ?_
  refine lv_istore_n hx hb dX0_nearest_5 rfl hl (by decide) rfl (fun ls hl => ?_)
  have hl : lv_has ls 7 [(3, .int ((a + b) - z)), (0, .int a), (1, .int b), (2, .int z)] := hl
  refine lv_iload_n hx hb dX0_nearest_6 rfl (lv_at hl 0 rfl) ?_
  refine lv_iload_n hx hb dX0_nearest_7 rfl (lv_at hl 1 rfl) ?_
  refine lv_isub hx hb dX0_nearest_8 ?_
  refine va_mabs hx hb (hml.trans hl.1.symm) hown (hts (.methodLink RX0 88 Lib.Math.abs.name) (by decide +kernel)) (hts (.static Lib.Math.abs.name) (by decide +kernel)) (hts (.initialized "java/lang/Math") (by decide +kernel)) (hts (.code Lib.Math.abs.name Lib.Math.abs.code 1 (some .int)) (by decide +kernel)) (Nat.le_of_ble_eq_true rfl) (Nat.le_of_ble_eq_true rfl) (Nat.le_of_ble_eq_true rfl) (Nat.le_of_ble_eq_true rfl) dX0_nearest_9 ?_
  refine lv_topi (fun fa efa => ?_)
  have efa : fa = rf_abs (a + b - z - a) := efa
  refine lv_istore hx hb dX0_nearest_12 hl (by decide) rfl (fun ls hl => ?_)
  have hl : lv_has ls 7 [(4, .int fa), (3, .int ((a + b) - z)), (0, .int a), (1, .int b), (2, .int z)] := hl
  refine lv_iload_n hx hb dX0_nearest_14 rfl (lv_at hl 1 rfl) ?_
  refine lv_iload_n hx hb dX0_nearest_15 rfl (lv_at hl 3 rfl) ?_
  refine lv_isub hx hb dX0_nearest_16 ?_
  refine va_mabs hx hb (hml.trans hl.1.symm) hown (hts (.methodLink RX0 88 Lib.Math.abs.name) (by decide +kernel)) (hts (.static Lib.Math.abs.name) (by decide +kernel)) (hts (.initialized "java/lang/Math") (by decide +kernel)) (hts (.code Lib.Math.abs.name Lib.Math.abs.code 1 (some .int)) (by decide +kernel)) (Nat.le_of_ble_eq_true rfl) (Nat.le_of_ble_eq_true rfl) (Nat.le_of_ble_eq_true rfl) (Nat.le_of_ble_eq_true rfl) dX0_nearest_17 ?_
  refine lv_topi (fun fb efb => ?_)
  have efb : fb = rf_abs (a + b - z - b) := efb
  refine lv_istore hx hb dX0_nearest_20 hl (by decide) rfl (fun ls hl => ?_)
  have hl : lv_has ls 7 [(5, .int fb), (4, .int fa), (3, .int ((a + b) - z)), (0, .int a), (1, .int b), (2, .int z)] := hl
  refine lv_iload_n hx hb dX0_nearest_22 rfl (lv_at hl 2 rfl) ?_
  refine lv_iload_n hx hb dX0_nearest_23 rfl (lv_at hl 5 rfl) ?_
  refine lv_isub hx hb dX0_nearest_24 ?_
  refine va_mabs hx hb (hml.trans hl.1.symm) hown (hts (.methodLink RX0 88 Lib.Math.abs.name) (by decide +kernel)) (hts (.static Lib.Math.abs.name) (by decide +kernel)) (hts (.initialized "java/lang/Math") (by decide +kernel)) (hts (.code Lib.Math.abs.name Lib.Math.abs.code 1 (some .int)) (by decide +kernel)) (Nat.le_of_ble_eq_true rfl) (Nat.le_of_ble_eq_true rfl) (Nat.le_of_ble_eq_true rfl) (Nat.le_of_ble_eq_true rfl) dX0_nearest_25 ?_
  refine lv_topi (fun fc efc => ?_)
  have efc : fc = rf_abs (a + b - z - z) := efc
  refine lv_istore hx hb dX0_nearest_28 hl (by decide) rfl (fun ls hl => ?_)
  have hl : lv_has ls 7 [(6, .int fc), (5, .int fb), (4, .int fa), (3, .int ((a + b) - z)), (0, .int a), (1, .int b), (2, .int z)] := hl
  refine lv_iload hx hb dX0_nearest_30 (lv_at hl 2 rfl) ?_
  refine lv_iload hx hb dX0_nearest_32 (lv_at hl 1 rfl) ?_
  refine lv_icmp_gt (tgt := 46) hx hb dX0_nearest_34 (by decide) (fun h1 => ?_) (fun h1 => ?_)
  · refine lv_iload hx hb dX0_nearest_46 (lv_at hl 1 rfl) ?_
    refine lv_iload hx hb dX0_nearest_48 (lv_at hl 0 rfl) ?_
    refine lv_icmp_gt (tgt := 57) hx hb dX0_nearest_50 (by decide) (fun h3 => ?_) (fun h3 => ?_)
    · refine lv_iload_n hx hb dX0_nearest_57 rfl (lv_at hl 6 rfl) ?_
      exact W.iret (v := z) hx hb hr (fun t ht hW => ⟨z, rfl, by unfold rf_near; rw [← efa, ← efb, ← efc]; rw [if_neg (fun q => absurd q.1 (Int32.not_le.mpr h1)), if_neg (Int32.not_le.mpr h3)], ht⟩) (fun q h => by cases h) dX0_nearest_58
    · refine lv_iload_n hx hb dX0_nearest_53 rfl (lv_at hl 5 rfl) ?_
      refine lv_goto (tgt := 58) hx hb dX0_nearest_54 (by decide) ?_
      exact W.iret (v := b) hx hb hr (fun t ht hW => ⟨b, rfl, by unfold rf_near; rw [← efa, ← efb, ← efc]; rw [if_neg (fun q => absurd q.1 (Int32.not_le.mpr h1)), if_pos (Int32.not_lt.mp h3)], ht⟩) (fun q h => by cases h) dX0_nearest_58
  · refine lv_iload hx hb dX0_nearest_37 (lv_at hl 2 rfl) ?_
    refine lv_iload hx hb dX0_nearest_39 (lv_at hl 0 rfl) ?_
    refine lv_icmp_gt (tgt := 46) hx hb dX0_nearest_41 (by decide) (fun h2 => ?_) (fun h2 => ?_)
    · refine lv_iload hx hb dX0_nearest_46 (lv_at hl 1 rfl) ?_
      refine lv_iload hx hb dX0_nearest_48 (lv_at hl 0 rfl) ?_
      refine lv_icmp_gt (tgt := 57) hx hb dX0_nearest_50 (by decide) (fun h3 => ?_) (fun h3 => ?_)
      · refine lv_iload_n hx hb dX0_nearest_57 rfl (lv_at hl 6 rfl) ?_
        exact W.iret (v := z) hx hb hr (fun t ht hW => ⟨z, rfl, by unfold rf_near; rw [← efa, ← efb, ← efc]; rw [if_neg (fun q => absurd q.2 (Int32.not_le.mpr h2)), if_neg (Int32.not_le.mpr h3)], ht⟩) (fun q h => by cases h) dX0_nearest_58
      · refine lv_iload_n hx hb dX0_nearest_53 rfl (lv_at hl 5 rfl) ?_
        refine lv_goto (tgt := 58) hx hb dX0_nearest_54 (by decide) ?_
        exact W.iret (v := b) hx hb hr (fun t ht hW => ⟨b, rfl, by unfold rf_near; rw [← efa, ← efb, ← efc]; rw [if_neg (fun q => absurd q.2 (Int32.not_le.mpr h2)), if_pos (Int32.not_lt.mp h3)], ht⟩) (fun q h => by cases h) dX0_nearest_58
    · refine lv_iload_n hx hb dX0_nearest_44 rfl (lv_at hl 4 rfl) ?_
      exact W.iret (v := a) hx hb hr (fun t ht hW => ⟨a, rfl, by unfold rf_near; rw [← efa, ← efb, ← efc]; rw [if_pos ⟨Int32.not_lt.mp h1, Int32.not_lt.mp h2⟩], ht⟩) (fun q h => by cases h) dX0_nearest_45
set_option maxHeartbeats 4000000 in
set_option maxRecDepth 100000 in
theorem c_X0_pointsAlong (l : Launch) (d o z : Int32) (hz : ¬ z = 0) : Met l yX0_pointsAlong wsX0_pointsAlong ({ frames := 0, cells := 0, slots := 0, locals := 0 }) (va_Pc [.int d, .int o, .int z] (fun _ => True)) (vp_Si (fun r => r = (d - o + z - 1) / z)) 0 0 (fun _ => False) := by
  refine Met.ofW (cc := cX0_pointsAlong) (maxL := 3) (ret := (some .int)) (by decide) rfl ?_
  intro p e s m args below meth c s₁ B hml hv
  obtain ⟨rfl, -⟩ := hv
  have hx := B.exec
  have hb := B.bytes
  have hr := B.returns
  have hts := atoms_spec (ws := wsX0_pointsAlong) B.pre
  have hown : s.vm.findClass RX0 = some m.cls := findClass_of_methodNamed B.named
  have hlocks := B.notSynchronized
  have hl := lv_entry ([.int d, .int o, .int z]) (n := 3) (Nat.le_of_ble_eq_true rfl)
  rw [lg_entry_eq]
  generalize (lg_sl ([.int d, .int o, .int z]) ++ List.replicate (3 - (lg_sl ([.int d, .int o, .int z])).length) Slot.unset).toArray = ls at hl ⊢
  have hl : lv_has ls 3 [(0, .int d), (1, .int o), (2, .int z)] := hl
  refine lv_iload_n hx hb dX0_pointsAlong_0 rfl (lv_at hl 0 rfl) ?_
  refine lv_iload_n hx hb dX0_pointsAlong_1 rfl (lv_at hl 1 rfl) ?_
  refine lv_isub hx hb dX0_pointsAlong_2 ?_
  refine lv_iload_n hx hb dX0_pointsAlong_3 rfl (lv_at hl 2 rfl) ?_
  refine lv_iadd hx hb dX0_pointsAlong_4 ?_
  refine lv_iconst (v := 1) hx hb dX0_pointsAlong_5 (by decide) ?_
  refine lv_isub hx hb dX0_pointsAlong_6 ?_
  refine lv_iload_n hx hb dX0_pointsAlong_7 rfl (lv_at hl 2 rfl) ?_
  refine lv_idiv hx hb dX0_pointsAlong_8 (hz) ?_
  exact W.iret (v := ((((d - o) + z) - 1) / z)) hx hb hr (fun t ht hW => ⟨((((d - o) + z) - 1) / z), rfl, rfl, ht⟩) (fun q h => by cases h) dX0_pointsAlong_9
end
section
set_option maxHeartbeats 4000000 in
set_option maxRecDepth 100000 in
theorem c_X0_foretold (l : Launch) (dC : Nat → ClassId) (dI : Nat → Nat → Nat) (cI : ClassId) (h0 ab rc rl ps : Nat) (f : Nat → Int32) (y i q : Nat) (ok : rf_ok rc rl ps) (hy : y < rc) (hi : i < rl) (hq : q ≤ 4) : Met l yX0_foretold wsX0_foretold ({ frames := 2, cells := 0, slots := 0, locals := 39 }) (va_Pc [.ref h0, .int (nI y), .int (nI i), .int (nI q)] (rw_pre dC dI cI h0 ab rc rl ps f)) (vp_Si (fun r => r = rf_g f rl ps y i q)) 0 0 (fun _ => False) := by
  refine Met.ofW (cc := cX0_foretold) (maxL := 6) (ret := (some .int)) (by decide) rfl ?_
  intro p e s m args below meth c s₁ B hml hv
  obtain ⟨rfl, hP, hK⟩ := hv
  have hx := B.exec
  have hb := B.bytes
  have hr := B.returns
  have hts := atoms_spec (ws := wsX0_foretold) B.pre
  have hown : s.vm.findClass RX0 = some m.cls := findClass_of_methodNamed B.named
  have hlocks := B.notSynchronized
  have hP : va_P (dC, dI) rw_cl (rw_W h0 ab cI rc rl ps f) s.heap := hP
  have hl := lv_entry ([.ref h0, .int (nI y), .int (nI i), .int (nI q)]) (n := 6) (Nat.le_of_ble_eq_true rfl)
  rw [lg_entry_eq]
  generalize (lg_sl ([.ref h0, .int (nI y), .int (nI i), .int (nI q)]) ++ List.replicate (6 - (lg_sl ([.ref h0, .int (nI y), .int (nI i), .int (nI q)])).length) Slot.unset).toArray = ls at hl ⊢
  have hl : lv_has ls 6 [(0, .ref h0), (1, .int (nI y)), (2, .int (nI i)), (3, .int (nI q))] := hl
  have h1 := ok.rc
  have h2 := ok.rl
  have h3 := ok.k hy hi
  have h4 := ok.2.2.2.2
  refine lv_aload_n hx hb dX0_foretold_0 rfl (lv_at hl 0 rfl) ?_
  refine lv_iload_n hx hb dX0_foretold_1 rfl (lv_at hl 1 rfl) ?_
  refine lv_iload_n hx hb dX0_foretold_2 rfl (lv_at hl 2 rfl) ?_
  refine lv_aload_n hx hb dX0_foretold_3 rfl (lv_at hl 0 rfl) ?_
  refine va_get (D := (dC, dI)) (ci := 0) (v := .int (nI ps)) (C := RX0) (T := TX0) (N := 4) hx hb hts (by decide +kernel) hown hK hP 0 rfl rfl 3 (by decide) (hts (.fieldLink RX0 20 "RowFilters" "pointSize" "I") (by decide +kernel)) (fun _ h9 => h9) rfl dX0_foretold_4 ?_
  refine lv_isub hx hb dX0_foretold_7 ?_
  refine vp_callSi (W.runV (C := RX0) (As := [.int (nI y), .int ((nI i) - (nI ps))]) (rest := []) ⟨hx, hb, hml, hown, hts⟩ (c_X0_byteOrZero l dC dI cI h0 ab rc rl ps f (nI y) (nI i - nI ps) (rf_in (rf_in_0 y) (rf_in_p h4) h3)) (cwV 2 hts gX0_foretold_X0_byteOrZero rfl rfl rfl (by decide +kernel) ⟨Nat.le_of_ble_eq_true rfl, Nat.le_of_ble_eq_true rfl⟩) ⟨fun a U g mk q => by obtain ⟨q0, qP, qK⟩ := q; exact ⟨q0, qP, va_K.moved (u := U) (U := U.calling g mk a) (Vm.Alike.refl U.vm) qK⟩, va_recv hK hP (ci := 0) (q0 := 0) rfl rfl, fun U hU hW => ⟨rfl, by rw [hU]; exact hP, va_K.moved hW.alike hK⟩⟩ rfl rfl hl.1 rfl (lv_room (Nat.le_of_ble_eq_true rfl)) dX0_foretold_8 ⟨Nat.zero_le _, Nat.zero_le _⟩) (fun ra ea => ?_)
  rw [rf_z_a (by omega) (by omega) h4 h3] at ea
  refine lv_istore hx hb dX0_foretold_11 hl (by decide) rfl (fun ls hl => ?_)
  have hl : lv_has ls 6 [(4, .int ra), (0, .ref h0), (1, .int (nI y)), (2, .int (nI i)), (3, .int (nI q))] := hl
  refine lv_aload_n hx hb dX0_foretold_13 rfl (lv_at hl 1 rfl) ?_
  refine lv_iload_n hx hb dX0_foretold_14 rfl (lv_at hl 2 rfl) ?_
  refine lv_iconst (v := 1) hx hb dX0_foretold_15 (by decide) ?_
  refine lv_isub hx hb dX0_foretold_16 ?_
  refine lv_iload_n hx hb dX0_foretold_17 rfl (lv_at hl 3 rfl) ?_
  refine vp_callSi (W.runV (C := RX0) (As := [.int ((nI y) - 1), .int (nI i)]) (rest := []) ⟨hx, hb, hml, hown, hts⟩ (c_X0_byteOrZero l dC dI cI h0 ab rc rl ps f (nI y - 1) (nI i) (rf_in (rf_in_1 (by omega)) (rf_in_0 i) h3)) (cwV 2 hts gX0_foretold_X0_byteOrZero rfl rfl rfl (by decide +kernel) ⟨Nat.le_of_ble_eq_true rfl, Nat.le_of_ble_eq_true rfl⟩) ⟨fun a U g mk q => by obtain ⟨q0, qP, qK⟩ := q; exact ⟨q0, qP, va_K.moved (u := U) (U := U.calling g mk a) (Vm.Alike.refl U.vm) qK⟩, va_recv hK hP (ci := 0) (q0 := 0) rfl rfl, fun U hU hW => ⟨rfl, by rw [hU]; exact hP, va_K.moved hW.alike hK⟩⟩ rfl rfl hl.1 rfl (lv_room (Nat.le_of_ble_eq_true rfl)) dX0_foretold_18 ⟨Nat.zero_le _, Nat.zero_le _⟩) (fun rb eb => ?_)
  rw [rf_z_b (by omega) (by omega) h3] at eb
  refine lv_istore hx hb dX0_foretold_21 hl (by decide) rfl (fun ls hl => ?_)
  have hl : lv_has ls 6 [(5, .int rb), (4, .int ra), (0, .ref h0), (1, .int (nI y)), (2, .int (nI i)), (3, .int (nI q))] := hl
  refine lv_iload_n hx hb dX0_foretold_23 rfl (lv_at hl 5 rfl) ?_
  obtain rfl | rfl | rfl | rfl | rfl : q = 0 ∨ q = 1 ∨ q = 2 ∨ q = 3 ∨ q = 4 := by omega
  · refine lv_tableOut (tgt := 91) hx hb dX0_foretold_24 (by decide +kernel) (by decide) ?_
    refine lv_iconst (v := 0) hx hb dX0_foretold_91 (by decide) ?_
    exact W.iret (v := 0) hx hb hr (fun t ht hW => ⟨0, rfl, by simp [rf_g], ht⟩) (fun q h => by cases h) dX0_foretold_92
  · refine lv_tableIn (tgt := 56) hx hb dX0_foretold_24 (by decide +kernel) (by decide +kernel) rfl (by decide) ?_
    refine lv_iload hx hb dX0_foretold_56 (lv_at hl 1 rfl) ?_
    exact W.iret (v := ra) hx hb hr (fun t ht hW => ⟨ra, rfl, by rw [ea]; simp [rf_g], ht⟩) (fun q h => by cases h) dX0_foretold_58
  · refine lv_tableIn (tgt := 59) hx hb dX0_foretold_24 (by decide +kernel) (by decide +kernel) rfl (by decide) ?_
    refine lv_iload hx hb dX0_foretold_59 (lv_at hl 0 rfl) ?_
    exact W.iret (v := rb) hx hb hr (fun t ht hW => ⟨rb, rfl, by rw [eb]; simp [rf_g], ht⟩) (fun q h => by cases h) dX0_foretold_61
  · refine lv_tableIn (tgt := 62) hx hb dX0_foretold_24 (by decide +kernel) (by decide +kernel) rfl (by decide) ?_
    refine lv_iload hx hb dX0_foretold_62 (lv_at hl 1 rfl) ?_
    refine lv_iload hx hb dX0_foretold_64 (lv_at hl 0 rfl) ?_
    refine lv_iadd hx hb dX0_foretold_66 ?_
    refine lv_iconst (v := 2) hx hb dX0_foretold_67 (by decide) ?_
    refine lv_idiv hx hb dX0_foretold_68 (by decide) ?_
    exact W.iret (v := ((ra + rb) / 2)) hx hb hr (fun t ht hW => ⟨((ra + rb) / 2), rfl, by rw [ea, eb]; simp [rf_g], ht⟩) (fun q h => by cases h) dX0_foretold_69
  · refine lv_tableIn (tgt := 70) hx hb dX0_foretold_24 (by decide +kernel) (by decide +kernel) rfl (by decide) ?_
    refine lv_iload hx hb dX0_foretold_70 (lv_at hl 1 rfl) ?_
    refine lv_iload hx hb dX0_foretold_72 (lv_at hl 0 rfl) ?_
    refine lv_aload_n hx hb dX0_foretold_74 rfl (lv_at hl 2 rfl) ?_
    refine lv_iload_n hx hb dX0_foretold_75 rfl (lv_at hl 3 rfl) ?_
    refine lv_iconst (v := 1) hx hb dX0_foretold_76 (by decide) ?_
    refine lv_isub hx hb dX0_foretold_77 ?_
    refine lv_iload_n hx hb dX0_foretold_78 rfl (lv_at hl 4 rfl) ?_
    refine lv_aload_n hx hb dX0_foretold_79 rfl (lv_at hl 2 rfl) ?_
    refine va_get (D := (dC, dI)) (ci := 0) (v := .int (nI ps)) (C := RX0) (T := TX0) (N := 4) hx hb hts (by decide +kernel) hown hK hP 0 rfl rfl 3 (by decide) (hts (.fieldLink RX0 20 "RowFilters" "pointSize" "I") (by decide +kernel)) (fun _ h9 => h9) rfl dX0_foretold_80 ?_
    refine lv_isub hx hb dX0_foretold_83 ?_
    refine vp_callSi (W.runV (C := RX0) (As := [.int ((nI y) - 1), .int ((nI i) - (nI ps))]) (rest := [.int rb, .int ra]) ⟨hx, hb, hml, hown, hts⟩ (c_X0_byteOrZero l dC dI cI h0 ab rc rl ps f (nI y - 1) (nI i - nI ps) (rf_in (rf_in_1 (by omega)) (rf_in_p h4) h3)) (cwV 2 hts gX0_foretold_X0_byteOrZero rfl rfl rfl (by decide +kernel) ⟨Nat.le_of_ble_eq_true rfl, Nat.le_of_ble_eq_true rfl⟩) ⟨fun a U g mk q => by obtain ⟨q0, qP, qK⟩ := q; exact ⟨q0, qP, va_K.moved (u := U) (U := U.calling g mk a) (Vm.Alike.refl U.vm) qK⟩, va_recv hK hP (ci := 0) (q0 := 0) rfl rfl, fun U hU hW => ⟨rfl, by rw [hU]; exact hP, va_K.moved hW.alike hK⟩⟩ rfl rfl hl.1 rfl (lv_room (Nat.le_of_ble_eq_true rfl)) dX0_foretold_84 ⟨Nat.zero_le _, Nat.zero_le _⟩) (fun rz ez => ?_)
    rw [rf_z_c (by omega) (by omega) h4 h3] at ez
    refine vp_callSi (W.runS (As := [.int ra, .int rb, .int rz]) (rest := []) ⟨hx, hb, hml, hown, hts⟩ (c_X0_nearest l ra rb rz) (va_cwS 3 hts gX0_foretold_X0_nearest rfl rfl rfl (by decide +kernel) ⟨Nat.le_of_ble_eq_true rfl, Nat.le_of_ble_eq_true rfl⟩) ⟨fun _ _ _ _ q => q, fun U hU hW => ⟨rfl, trivial⟩⟩ rfl rfl hl.1 rfl (lv_room (Nat.le_of_ble_eq_true rfl)) dX0_foretold_87 ⟨Nat.zero_le _, Nat.zero_le _⟩) (fun rn en => ?_)
    rw [ea, eb, ez] at en
    exact W.iret (v := rn) hx hb hr (fun t ht hW => ⟨rn, rfl, by rw [en]; simp [rf_g], ht⟩) (fun q h => by cases h) dX0_foretold_90
set_option maxHeartbeats 4000000 in
set_option maxRecDepth 100000 in
theorem c_X0_sumTold (l : Launch) (dC : Nat → ClassId) (dI : Nat → Nat → Nat) (cI : ClassId) (h0 ab rc rl ps : Nat) (f : Nat → Int32) (y q : Nat) (ok : rf_ok rc rl ps) (hy : y < rc) (hq : q ≤ 4) : Met l yX0_sumTold wsX0_sumTold ({ frames := 3, cells := 0, slots := 0, locals := 64 }) (va_Pc [.ref h0, .int (nI y), .int (nI q)] (rw_pre dC dI cI h0 ab rc rl ps f)) (vp_Si (fun r => r = rf_s f rl ps y q rl)) 0 0 (fun _ => False) := by
  refine Met.ofW (cc := cX0_sumTold) (maxL := 6) (ret := (some .int)) (by decide) rfl ?_
  intro p e s m args below meth c s₁ B hml hv
  obtain ⟨rfl, hP, hK⟩ := hv
  have hx := B.exec
  have hb := B.bytes
  have hr := B.returns
  have hts := atoms_spec (ws := wsX0_sumTold) B.pre
  have hown : s.vm.findClass RX0 = some m.cls := findClass_of_methodNamed B.named
  have hlocks := B.notSynchronized
  have hP : va_P (dC, dI) rw_cl (rw_W h0 ab cI rc rl ps f) s.heap := hP
  have hl := lv_entry ([.ref h0, .int (nI y), .int (nI q)]) (n := 6) (Nat.le_of_ble_eq_true rfl)
  rw [lg_entry_eq]
  generalize (lg_sl ([.ref h0, .int (nI y), .int (nI q)]) ++ List.replicate (6 - (lg_sl ([.ref h0, .int (nI y), .int (nI q)])).length) Slot.unset).toArray = ls at hl ⊢
  have hl : lv_has ls 6 [(0, .ref h0), (1, .int (nI y)), (2, .int (nI q))] := hl
  have h1 := ok.rc
  have h2 := ok.rl
  refine lv_iconst (v := 0) hx hb dX0_sumTold_0 (by decide) ?_
  refine lv_istore_n hx hb dX0_sumTold_1 rfl hl (by decide) rfl (fun ls hl => ?_)
  have hl : lv_has ls 6 [(3, .int 0), (0, .ref h0), (1, .int (nI y)), (2, .int (nI q))] := hl
  refine lv_iconst (v := 0) hx hb dX0_sumTold_2 (by decide) ?_
  refine lv_istore hx hb dX0_sumTold_3 hl (by decide) rfl (fun ls hl => ?_)
  have hl : lv_has ls 6 [(4, .int 0), (3, .int 0), (0, .ref h0), (1, .int (nI y)), (2, .int (nI q))] := hl
  refine rw_loop (fun i : Nat => rl - i) (fun i ls => (i ≤ rl) ∧ lv_has ls 6 [(0, .ref h0), (1, .int (nI y)), (2, .int (nI q)), (3, .int (rf_s f rl ps y q i)), (4, .int (nI i))]) ?_ (0) ⟨Nat.zero_le _, lv_sub hl [2, 3, 4, 1, 0] rfl⟩
  intro i ls hI ih
  obtain ⟨hj, hl⟩ := hI
  refine lv_iload hx hb dX0_sumTold_5 (lv_at hl 4 rfl) ?_
  refine lv_aload_n hx hb dX0_sumTold_7 rfl (lv_at hl 0 rfl) ?_
  refine va_get (D := (dC, dI)) (ci := 0) (v := .int (nI rl)) (C := RX0) (T := TX0) (N := 4) hx hb hts (by decide +kernel) hown hK hP 0 rfl rfl 2 (by decide) (hts (.fieldLink RX0 17 "RowFilters" "rowLength" "I") (by decide +kernel)) (fun _ h9 => h9) rfl dX0_sumTold_8 ?_
  refine lv_icmp_ge (tgt := 47) hx hb dX0_sumTold_11 (by decide) (fun hc => ?_) (fun hc => ?_)
  · have hi : i = rl := by have := (nI_leI (by omega) (by omega)).mp hc; omega
    refine lv_iload_n hx hb dX0_sumTold_47 rfl (lv_at hl 3 rfl) ?_
    exact W.iret (v := (rf_s f rl ps y q i)) hx hb hr (fun t ht hW => ⟨(rf_s f rl ps y q i), rfl, by rw [hi], ht⟩) (fun q h => by cases h) dX0_sumTold_48
  · have hi : i < rl := Nat.lt_of_not_le (fun q => hc ((nI_leI (by omega) (by omega)).mpr q))
    have h3 := ok.k hy hi
    refine lv_aload_n hx hb dX0_sumTold_14 rfl (lv_at hl 0 rfl) ?_
    refine lv_iload_n hx hb dX0_sumTold_15 rfl (lv_at hl 1 rfl) ?_
    refine lv_iload hx hb dX0_sumTold_16 (lv_at hl 4 rfl) ?_
    refine vp_callSi (W.runV (C := RX0) (As := [.int (nI y), .int (nI i)]) (rest := []) ⟨hx, hb, hml, hown, hts⟩ (c_X0_byteOrZero l dC dI cI h0 ab rc rl ps f (nI y) (nI i) (rf_in (rf_in_0 y) (rf_in_0 i) h3)) (cwV 2 hts gX0_sumTold_X0_byteOrZero rfl rfl rfl (by decide +kernel) ⟨Nat.le_of_ble_eq_true rfl, Nat.le_of_ble_eq_true rfl⟩) ⟨fun a U g mk q => by obtain ⟨q0, qP, qK⟩ := q; exact ⟨q0, qP, va_K.moved (u := U) (U := U.calling g mk a) (Vm.Alike.refl U.vm) qK⟩, va_recv hK hP (ci := 0) (q0 := 0) rfl rfl, fun U hU hW => ⟨rfl, by rw [hU]; exact hP, va_K.moved hW.alike hK⟩⟩ rfl rfl hl.1 rfl (lv_room (Nat.le_of_ble_eq_true rfl)) dX0_sumTold_18 ⟨Nat.zero_le _, Nat.zero_le _⟩) (fun rb eb => ?_)
    rw [rf_z_0 (by omega) (by omega) h3] at eb
    refine lv_aload_n hx hb dX0_sumTold_21 rfl (lv_at hl 0 rfl) ?_
    refine lv_iload_n hx hb dX0_sumTold_22 rfl (lv_at hl 1 rfl) ?_
    refine lv_iload hx hb dX0_sumTold_23 (lv_at hl 4 rfl) ?_
    refine lv_iload_n hx hb dX0_sumTold_25 rfl (lv_at hl 2 rfl) ?_
    refine vp_callSi (W.runV (C := RX0) (As := [.int (nI y), .int (nI i), .int (nI q)]) (rest := [.int rb]) ⟨hx, hb, hml, hown, hts⟩ (c_X0_foretold l dC dI cI h0 ab rc rl ps f y i q ok hy hi hq) (cwV 3 hts gX0_sumTold_X0_foretold rfl rfl rfl (by decide +kernel) ⟨Nat.le_of_ble_eq_true rfl, Nat.le_of_ble_eq_true rfl⟩) ⟨fun a U g mk q => by obtain ⟨q0, qP, qK⟩ := q; exact ⟨q0, qP, va_K.moved (u := U) (U := U.calling g mk a) (Vm.Alike.refl U.vm) qK⟩, va_recv hK hP (ci := 0) (q0 := 0) rfl rfl, fun U hU hW => ⟨rfl, by rw [hU]; exact hP, va_K.moved hW.alike hK⟩⟩ rfl rfl hl.1 rfl (lv_room (Nat.le_of_ble_eq_true rfl)) dX0_sumTold_26 ⟨Nat.zero_le _, Nat.zero_le _⟩) (fun rg eg => ?_)
    refine lv_isub hx hb dX0_sumTold_29 ?_
    refine lv_i2b hx hb dX0_sumTold_30 rfl ?_
    refine lv_istore hx hb dX0_sumTold_31 hl (by decide) rfl (fun ls hl => ?_)
    have hl : lv_has ls 6 [(5, .int ((rb - rg).toInt8.toInt32)), (0, .ref h0), (1, .int (nI y)), (2, .int (nI q)), (3, .int (rf_s f rl ps y q i)), (4, .int (nI i))] := hl
    refine lv_iload_n hx hb dX0_sumTold_33 rfl (lv_at hl 4 rfl) ?_
    refine lv_iload hx hb dX0_sumTold_34 (lv_at hl 0 rfl) ?_
    refine va_mabs hx hb (hml.trans hl.1.symm) hown (hts (.methodLink RX0 88 Lib.Math.abs.name) (by decide +kernel)) (hts (.static Lib.Math.abs.name) (by decide +kernel)) (hts (.initialized "java/lang/Math") (by decide +kernel)) (hts (.code Lib.Math.abs.name Lib.Math.abs.code 1 (some .int)) (by decide +kernel)) (Nat.le_of_ble_eq_true rfl) (Nat.le_of_ble_eq_true rfl) (Nat.le_of_ble_eq_true rfl) (Nat.le_of_ble_eq_true rfl) dX0_sumTold_36 ?_
    refine lv_topi (fun v ev => ?_)
    have ev : v = rf_m (rf_t f rl ps y q i) := by rw [ev, eb, eg]; exact rf_abs8 _
    refine lv_iadd hx hb dX0_sumTold_39 ?_
    refine lv_istore_n hx hb dX0_sumTold_40 rfl hl (by decide) rfl (fun ls hl => ?_)
    have hl : lv_has ls 6 [(3, .int ((rf_s f rl ps y q i) + v)), (5, .int ((rb - rg).toInt8.toInt32)), (0, .ref h0), (1, .int (nI y)), (2, .int (nI q)), (4, .int (nI i))] := hl
    refine lv_iinc (k := 5) (v := (nI (i + 1))) hx hb dX0_sumTold_41 hl rfl (rf_inc i) (by decide) rfl (fun ls hl => ?_)
    have hl : lv_has ls 6 [(4, .int (nI (i + 1))), (3, .int ((rf_s f rl ps y q i) + v)), (5, .int ((rb - rg).toInt8.toInt32)), (0, .ref h0), (1, .int (nI y)), (2, .int (nI q))] := hl
    refine lv_goto (tgt := 5) hx hb dX0_sumTold_44 (by decide) ?_
    have e9 : rf_s f rl ps y q (i + 1) = (rf_s f rl ps y q i + v) := by rw [ev]; rfl
    rw [← e9] at hl
    exact ih (i + 1) _ (by show rl - (i + 1) < rl - i; omega) ⟨by omega, lv_sub hl [3, 4, 5, 1, 0] rfl⟩
end
section
set_option maxHeartbeats 4000000 in
set_option maxRecDepth 100000 in
theorem c_X0_leastFilter (l : Launch) (dC : Nat → ClassId) (dI : Nat → Nat → Nat) (cI : ClassId) (h0 ab rc rl ps : Nat) (f : Nat → Int32) (y : Nat) (ok : rf_ok rc rl ps) (hy : y < rc) : Met l yX0_leastFilter wsX0_leastFilter ({ frames := 4, cells := 0, slots := 0, locals := 89 }) (va_Pc [.ref h0, .int (nI y)] (rw_pre dC dI cI h0 ab rc rl ps f)) (vp_Si (fun r => r = nI (rf_q f rl ps y))) 0 0 (fun _ => False) := by
  refine Met.ofW (cc := cX0_leastFilter) (maxL := 6) (ret := (some .int)) (by decide) rfl ?_
  intro p e s m args below meth c s₁ B hml hv
  obtain ⟨rfl, hP, hK⟩ := hv
  have hx := B.exec
  have hb := B.bytes
  have hr := B.returns
  have hts := atoms_spec (ws := wsX0_leastFilter) B.pre
  have hown : s.vm.findClass RX0 = some m.cls := findClass_of_methodNamed B.named
  have hlocks := B.notSynchronized
  have hP : va_P (dC, dI) rw_cl (rw_W h0 ab cI rc rl ps f) s.heap := hP
  have hl := lv_entry ([.ref h0, .int (nI y)]) (n := 6) (Nat.le_of_ble_eq_true rfl)
  rw [lg_entry_eq]
  generalize (lg_sl ([.ref h0, .int (nI y)]) ++ List.replicate (6 - (lg_sl ([.ref h0, .int (nI y)])).length) Slot.unset).toArray = ls at hl ⊢
  have hl : lv_has ls 6 [(0, .ref h0), (1, .int (nI y))] := hl
  refine lv_iconst (v := 0) hx hb dX0_leastFilter_0 (by decide) ?_
  refine lv_istore_n hx hb dX0_leastFilter_1 rfl hl (by decide) rfl (fun ls hl => ?_)
  have hl : lv_has ls 6 [(2, .int 0), (0, .ref h0), (1, .int (nI y))] := hl
  refine lv_aload_n hx hb dX0_leastFilter_2 rfl (lv_at hl 1 rfl) ?_
  refine lv_iload_n hx hb dX0_leastFilter_3 rfl (lv_at hl 2 rfl) ?_
  refine lv_iconst (v := 0) hx hb dX0_leastFilter_4 (by decide) ?_
  refine vp_callSi (W.runV (C := RX0) (As := [.int (nI y), .int 0]) (rest := []) ⟨hx, hb, hml, hown, hts⟩ (c_X0_sumTold l dC dI cI h0 ab rc rl ps f y 0 ok hy (by omega)) (cwV 2 hts gX0_leastFilter_X0_sumTold rfl rfl rfl (by decide +kernel) ⟨Nat.le_of_ble_eq_true rfl, Nat.le_of_ble_eq_true rfl⟩) ⟨fun a U g mk q => by obtain ⟨q0, qP, qK⟩ := q; exact ⟨q0, qP, va_K.moved (u := U) (U := U.calling g mk a) (Vm.Alike.refl U.vm) qK⟩, va_recv hK hP (ci := 0) (q0 := 0) rfl rfl, fun U hU hW => ⟨rfl, by rw [hU]; exact hP, va_K.moved hW.alike hK⟩⟩ rfl rfl hl.1 rfl (lv_room (Nat.le_of_ble_eq_true rfl)) dX0_leastFilter_5 ⟨Nat.zero_le _, Nat.zero_le _⟩) (fun s0 es => ?_)
  subst es
  refine lv_istore_n hx hb dX0_leastFilter_8 rfl hl (by decide) rfl (fun ls hl => ?_)
  have hl : lv_has ls 6 [(3, .int (rf_s f rl ps y 0 rl)), (2, .int 0), (0, .ref h0), (1, .int (nI y))] := hl
  refine lv_iconst (v := 1) hx hb dX0_leastFilter_9 (by decide) ?_
  refine lv_istore hx hb dX0_leastFilter_10 hl (by decide) rfl (fun ls hl => ?_)
  have hl : lv_has ls 6 [(4, .int 1), (3, .int (rf_s f rl ps y 0 rl)), (2, .int 0), (0, .ref h0), (1, .int (nI y))] := hl
  refine rw_loop (fun j : Nat => 4 - j) (fun j ls => (j ≤ 4) ∧ lv_has ls 6 [(0, .ref h0), (1, .int (nI y)), (2, .int (nI (rf_l (fun q => rf_s f rl ps y q rl) j).1)), (3, .int ((rf_l (fun q => rf_s f rl ps y q rl) j).2)), (4, .int (nI (j + 1)))]) ?_ (0) ⟨Nat.zero_le _, lv_sub hl [3, 4, 2, 1, 0] rfl⟩
  intro j ls hI ih
  obtain ⟨hj, hl⟩ := hI
  refine lv_iload hx hb dX0_leastFilter_12 (lv_at hl 4 rfl) ?_
  refine lv_iconst (v := 5) hx hb dX0_leastFilter_14 (by decide) ?_
  refine lv_icmp_ge (tgt := 45) hx hb dX0_leastFilter_15 (by decide) (fun hc => ?_) (fun hc => ?_)
  · have hi : j = 4 := by have := (nI_leI (a := 5) (by omega) (by omega)).mp hc; omega
    refine lv_iload_n hx hb dX0_leastFilter_45 rfl (lv_at hl 2 rfl) ?_
    exact W.iret (v := (nI (rf_l (fun q => rf_s f rl ps y q rl) j).1)) hx hb hr (fun t ht hW => ⟨(nI (rf_l (fun q => rf_s f rl ps y q rl) j).1), rfl, by rw [hi]; rfl, ht⟩) (fun q h => by cases h) dX0_leastFilter_46
  · have hi : j < 4 := Nat.lt_of_not_le (fun q => hc ((nI_leI (a := 5) (by omega) (by omega)).mpr (by omega)))
    refine lv_aload_n hx hb dX0_leastFilter_18 rfl (lv_at hl 0 rfl) ?_
    refine lv_iload_n hx hb dX0_leastFilter_19 rfl (lv_at hl 1 rfl) ?_
    refine lv_iload hx hb dX0_leastFilter_20 (lv_at hl 4 rfl) ?_
    refine vp_callSi (W.runV (C := RX0) (As := [.int (nI y), .int (nI (j + 1))]) (rest := []) ⟨hx, hb, hml, hown, hts⟩ (c_X0_sumTold l dC dI cI h0 ab rc rl ps f y (j + 1) ok hy (by omega)) (cwV 2 hts gX0_leastFilter_X0_sumTold rfl rfl rfl (by decide +kernel) ⟨Nat.le_of_ble_eq_true rfl, Nat.le_of_ble_eq_true rfl⟩) ⟨fun a U g mk q => by obtain ⟨q0, qP, qK⟩ := q; exact ⟨q0, qP, va_K.moved (u := U) (U := U.calling g mk a) (Vm.Alike.refl U.vm) qK⟩, va_recv hK hP (ci := 0) (q0 := 0) rfl rfl, fun U hU hW => ⟨rfl, by rw [hU]; exact hP, va_K.moved hW.alike hK⟩⟩ rfl rfl hl.1 rfl (lv_room (Nat.le_of_ble_eq_true rfl)) dX0_leastFilter_22 ⟨Nat.zero_le _, Nat.zero_le _⟩) (fun s1 es => ?_)
    refine lv_istore hx hb dX0_leastFilter_25 hl (by decide) rfl (fun ls hl => ?_)
    have hl : lv_has ls 6 [(5, .int s1), (0, .ref h0), (1, .int (nI y)), (2, .int (nI (rf_l (fun q => rf_s f rl ps y q rl) j).1)), (3, .int ((rf_l (fun q => rf_s f rl ps y q rl) j).2)), (4, .int (nI (j + 1)))] := hl
    refine lv_iload hx hb dX0_leastFilter_27 (lv_at hl 0 rfl) ?_
    refine lv_iload_n hx hb dX0_leastFilter_29 rfl (lv_at hl 4 rfl) ?_
    refine lv_icmp_ge (tgt := 39) hx hb dX0_leastFilter_30 (by decide) (fun hs => ?_) (fun hs => ?_)
    · have hl2 : rf_l (fun q => rf_s f rl ps y q rl) (j + 1) = rf_l (fun q => rf_s f rl ps y q rl) j := rf_l_ge (by show ¬ rf_s f rl ps y (j + 1) rl < _; rw [← es]; exact Int32.not_lt.mpr hs)
      refine lv_iinc (k := 5) (v := (nI (j + 1 + 1))) hx hb dX0_leastFilter_39 hl rfl (rf_inc (j + 1)) (by decide) rfl (fun ls hl => ?_)
      have hl : lv_has ls 6 [(4, .int (nI (j + 1 + 1))), (5, .int s1), (0, .ref h0), (1, .int (nI y)), (2, .int (nI (rf_l (fun q => rf_s f rl ps y q rl) j).1)), (3, .int ((rf_l (fun q => rf_s f rl ps y q rl) j).2))] := hl
      refine lv_goto (tgt := 12) hx hb dX0_leastFilter_42 (by decide) ?_
      exact ih (j + 1) _ (by show 4 - (j + 1) < 4 - j; omega) ⟨by omega, by rw [hl2]; exact lv_sub hl [2, 3, 4, 5, 0] rfl⟩
    · have hl2 : rf_l (fun q => rf_s f rl ps y q rl) (j + 1) = (j + 1, s1) := by rw [es]; exact rf_l_lt (by show rf_s f rl ps y (j + 1) rl < _; rw [← es]; exact Int32.not_le.mp hs)
      refine lv_iload hx hb dX0_leastFilter_33 (lv_at hl 5 rfl) ?_
      refine lv_istore_n hx hb dX0_leastFilter_35 rfl hl (by decide) rfl (fun ls hl => ?_)
      have hl : lv_has ls 6 [(2, .int (nI (j + 1))), (5, .int s1), (0, .ref h0), (1, .int (nI y)), (3, .int ((rf_l (fun q => rf_s f rl ps y q rl) j).2)), (4, .int (nI (j + 1)))] := hl
      refine lv_iload hx hb dX0_leastFilter_36 (lv_at hl 1 rfl) ?_
      refine lv_istore_n hx hb dX0_leastFilter_38 rfl hl (by decide) rfl (fun ls hl => ?_)
      have hl : lv_has ls 6 [(3, .int s1), (2, .int (nI (j + 1))), (5, .int s1), (0, .ref h0), (1, .int (nI y)), (4, .int (nI (j + 1)))] := hl
      refine lv_iinc (k := 5) (v := (nI (j + 1 + 1))) hx hb dX0_leastFilter_39 hl rfl (rf_inc (j + 1)) (by decide) rfl (fun ls hl => ?_)
      have hl : lv_has ls 6 [(4, .int (nI (j + 1 + 1))), (3, .int s1), (2, .int (nI (j + 1))), (5, .int s1), (0, .ref h0), (1, .int (nI y))] := hl
      refine lv_goto (tgt := 12) hx hb dX0_leastFilter_42 (by decide) ?_
      exact ih (j + 1) _ (by show 4 - (j + 1) < 4 - j; omega) ⟨by omega, by rw [hl2]; exact lv_sub hl [4, 5, 2, 1, 0] rfl⟩
set_option maxHeartbeats 4000000 in
set_option maxRecDepth 100000 in
theorem c_X0_hash (l : Launch) (dC : Nat → ClassId) (dI : Nat → Nat → Nat) (cI : ClassId) (h0 ab rc rl ps : Nat) (f : Nat → Int32) (ok : rf_ok rc rl ps) : Met l yX0_hash wsX0_hash ({ frames := 0, cells := 0, slots := 0, locals := 0 }) (va_Pc [.ref h0] (rw_pre dC dI cI h0 ab rc rl ps f)) (vp_Si (fun r => r = rf_h f (rc * rl))) 0 0 (fun _ => False) := by
  refine Met.ofW (cc := cX0_hash) (maxL := 4) (ret := (some .int)) (by decide) rfl ?_
  intro p e s m args below meth c s₁ B hml hv
  obtain ⟨rfl, hP, hK⟩ := hv
  have hx := B.exec
  have hb := B.bytes
  have hr := B.returns
  have hts := atoms_spec (ws := wsX0_hash) B.pre
  have hown : s.vm.findClass RX0 = some m.cls := findClass_of_methodNamed B.named
  have hlocks := B.notSynchronized
  have hP : va_P (dC, dI) rw_cl (rw_W h0 ab cI rc rl ps f) s.heap := hP
  have hl := lv_entry ([.ref h0]) (n := 4) (Nat.le_of_ble_eq_true rfl)
  rw [lg_entry_eq]
  generalize (lg_sl ([.ref h0]) ++ List.replicate (4 - (lg_sl ([.ref h0])).length) Slot.unset).toArray = ls at hl ⊢
  have hl : lv_has ls 4 [(0, .ref h0)] := hl
  have h1 := ok.2.2.1
  refine lv_aload_n hx hb dX0_hash_0 rfl (lv_at hl 0 rfl) ?_
  refine va_get (D := (dC, dI)) (ci := 0) (v := .int (nI rc)) (C := RX0) (T := TX0) (N := 4) hx hb hts (by decide +kernel) hown hK hP 0 rfl rfl 1 (by decide) (hts (.fieldLink RX0 13 "RowFilters" "rowCount" "I") (by decide +kernel)) (fun _ h9 => h9) rfl dX0_hash_1 ?_
  refine lv_aload_n hx hb dX0_hash_4 rfl (lv_at hl 0 rfl) ?_
  refine va_get (D := (dC, dI)) (ci := 0) (v := .int (nI rl)) (C := RX0) (T := TX0) (N := 4) hx hb hts (by decide +kernel) hown hK hP 0 rfl rfl 2 (by decide) (hts (.fieldLink RX0 17 "RowFilters" "rowLength" "I") (by decide +kernel)) (fun _ h9 => h9) rfl dX0_hash_5 ?_
  refine lv_imul hx hb dX0_hash_8 ?_
  refine W.eq (g2 := F0 m 9 ls [.int (nI (rc * rl))]) (congrArg (fun z9 => F0 m 9 ls [.int z9]) (show ((nI rc) * (nI rl)) = nI (rc * rl) from rf_mul rc rl)) ?_
  refine lv_istore_n hx hb dX0_hash_9 rfl hl (by decide) rfl (fun ls hl => ?_)
  have hl : lv_has ls 4 [(1, .int (nI (rc * rl))), (0, .ref h0)] := hl
  refine lv_iconst (v := 1) hx hb dX0_hash_10 (by decide) ?_
  refine lv_istore_n hx hb dX0_hash_11 rfl hl (by decide) rfl (fun ls hl => ?_)
  have hl : lv_has ls 4 [(2, .int 1), (1, .int (nI (rc * rl))), (0, .ref h0)] := hl
  refine lv_iconst (v := 0) hx hb dX0_hash_12 (by decide) ?_
  refine lv_istore_n hx hb dX0_hash_13 rfl hl (by decide) rfl (fun ls hl => ?_)
  have hl : lv_has ls 4 [(3, .int 0), (2, .int 1), (1, .int (nI (rc * rl))), (0, .ref h0)] := hl
  refine rw_loop (fun k : Nat => rc * rl - k) (fun k ls => (k ≤ rc * rl) ∧ lv_has ls 4 [(0, .ref h0), (1, .int (nI (rc * rl))), (2, .int (rf_h f k)), (3, .int (nI k))]) ?_ (0) ⟨Nat.zero_le _, lv_sub hl [3, 2, 1, 0] rfl⟩
  intro k ls hI ih
  obtain ⟨hj, hl⟩ := hI
  refine lv_iload_n hx hb dX0_hash_14 rfl (lv_at hl 3 rfl) ?_
  refine lv_iload_n hx hb dX0_hash_15 rfl (lv_at hl 1 rfl) ?_
  refine lv_icmp_ge (tgt := 37) hx hb dX0_hash_16 (by decide) (fun hc => ?_) (fun hc => ?_)
  · have hi : k = rc * rl := by have := (nI_leI (by omega) (by omega)).mp hc; omega
    refine lv_iload_n hx hb dX0_hash_37 rfl (lv_at hl 2 rfl) ?_
    exact W.iret (v := (rf_h f k)) hx hb hr (fun t ht hW => ⟨(rf_h f k), rfl, by rw [hi], ht⟩) (fun q h => by cases h) dX0_hash_38
  · have hi : k < rc * rl := Nat.lt_of_not_le (fun q => hc ((nI_leI (by omega) (by omega)).mpr q))
    refine lv_bipush (v := 31) hx hb dX0_hash_19 (by decide) ?_
    refine lv_iload_n hx hb dX0_hash_21 rfl (lv_at hl 2 rfl) ?_
    refine lv_imul hx hb dX0_hash_22 ?_
    refine lv_aload_n hx hb dX0_hash_23 rfl (lv_at hl 0 rfl) ?_
    refine va_get (D := (dC, dI)) (ci := 0) (v := .ref ab) (C := RX0) (T := TX0) (N := 4) hx hb hts (by decide +kernel) hown hK hP 0 rfl rfl 0 (by decide) (hts (.fieldLink RX0 9 "RowFilters" "bytes" "[I") (by decide +kernel)) (fun _ h9 => h9) rfl dX0_hash_24 ?_
    refine lv_iload_n hx hb dX0_hash_27 rfl (lv_at hl 3 rfl) ?_
    refine va_iald hx hb hK hP 1 0 rfl rfl (vp_in_nI (by omega) (by omega)) dX0_hash_28 ?_
    refine W.eq (g2 := F0 m 29 ls [.int (f k), .int (31 * (rf_h f k))]) (congrArg (fun z9 => F0 m 29 ls [.int z9, .int (31 * (rf_h f k))]) (show (f (nI k).toNatClampNeg) = (f k) from by rw [nI_clamp (by omega)])) ?_
    refine lv_iadd hx hb dX0_hash_29 ?_
    refine lv_istore_n hx hb dX0_hash_30 rfl hl (by decide) rfl (fun ls hl => ?_)
    have hl : lv_has ls 4 [(2, .int ((31 * (rf_h f k)) + (f k))), (0, .ref h0), (1, .int (nI (rc * rl))), (3, .int (nI k))] := hl
    refine lv_iinc (k := 3) (v := (nI (k + 1))) hx hb dX0_hash_31 hl rfl (rf_inc k) (by decide) rfl (fun ls hl => ?_)
    have hl : lv_has ls 4 [(3, .int (nI (k + 1))), (2, .int ((31 * (rf_h f k)) + (f k))), (0, .ref h0), (1, .int (nI (rc * rl)))] := hl
    refine lv_goto (tgt := 14) hx hb dX0_hash_34 (by decide) ?_
    have e9 : rf_h f (k + 1) = (31 * rf_h f k + f k) := rfl
    rw [← e9] at hl
    exact ih (k + 1) _ (by show rc * rl - (k + 1) < rc * rl - k; omega) ⟨by omega, lv_sub hl [2, 3, 1, 0] rfl⟩
end
section
set_option maxHeartbeats 4000000 in
set_option maxRecDepth 100000 in
theorem c_X0_tellRow (l : Launch) (dC : Nat → ClassId) (dI : Nat → Nat → Nat) (cI : ClassId) (h0 ab rc rl ps : Nat) (f : Nat → Int32) (sz : Nat) (y q : Nat) (ok : rf_ok rc rl ps) (hy : y < rc) (hq : q ≤ 4) : Met l yX0_tellRow wsX0_tellRow ({ frames := 3, cells := 0, slots := 0, locals := 64 }) (va_Pc [.ref h0, .int (nI y), .int (nI q)] (rw_preD dC dI cI h0 ab rc rl ps f sz)) (va_Qv (fun _ : Unit => True) (fun _ t9 => rw_B dC dI cI h0 ab rc rl ps (rf_p f (rf_tv f rl ps y q) (y * rl) (y * rl + rl)) (va_A (rw_W h0 ab cI rc rl ps f) sz) t9) (va_A (rw_W h0 ab cI rc rl ps f) sz)) 0 0 (va_A (rw_W h0 ab cI rc rl ps f) sz) := by
  refine Met.ofW (cc := cX0_tellRow) (maxL := 5) (ret := none) (by decide) rfl ?_
  intro p e s m args below meth c s₁ B hml hv
  obtain ⟨rfl, hsz, hP, hK, hD0⟩ := hv
  have hx := B.exec
  have hb := B.bytes
  have hr := B.returns
  have hts := atoms_spec (ws := wsX0_tellRow) B.pre
  have hown : s.vm.findClass RX0 = some m.cls := findClass_of_methodNamed B.named
  have hlocks := B.notSynchronized
  subst hsz
  have hD := hD0.self (sz := s.heap.size)
  generalize hAe : va_A (rw_W h0 ab cI rc rl ps f) s.heap.size = A at hD ⊢
  have hA : ∀ q : Nat, s.heap.size ≤ q → A q := fun q h => by rw [← hAe]; exact Or.inr h
  have hS : va_S A s.heap s.heap [] := va_S.rf
  have hP : va_P (dC, dI) rw_cl (rw_W h0 ab cI rc rl ps f) s.heap := hP
  have hl := lv_entry ([.ref h0, .int (nI y), .int (nI q)]) (n := 5) (Nat.le_of_ble_eq_true rfl)
  rw [lg_entry_eq]
  generalize (lg_sl ([.ref h0, .int (nI y), .int (nI q)]) ++ List.replicate (5 - (lg_sl ([.ref h0, .int (nI y), .int (nI q)])).length) Slot.unset).toArray = ls at hl ⊢
  have hl : lv_has ls 5 [(0, .ref h0), (1, .int (nI y)), (2, .int (nI q))] := hl
  have h1 := ok.rc
  have h2 := ok.rl
  have h5 := rf_row rl hy
  have h6 := ok.2.2.1
  refine lv_aload_n hx hb dX0_tellRow_0 rfl (lv_at hl 0 rfl) ?_
  refine va_get (D := (dC, dI)) (ci := 0) (v := .int (nI rl)) (C := RX0) (T := TX0) (N := 4) hx hb hts (by decide +kernel) hown hK hP 0 rfl rfl 2 (by decide) (hts (.fieldLink RX0 17 "RowFilters" "rowLength" "I") (by decide +kernel)) (fun _ h9 => h9) rfl dX0_tellRow_1 ?_
  refine lv_iconst (v := 1) hx hb dX0_tellRow_4 (by decide) ?_
  refine lv_isub hx hb dX0_tellRow_5 ?_
  refine lv_istore_n hx hb dX0_tellRow_6 rfl hl (by decide) rfl (fun ls hl => ?_)
  have hl : lv_has ls 5 [(3, .int ((nI rl) - 1)), (0, .ref h0), (1, .int (nI y)), (2, .int (nI q))] := hl
  have e0 : f = (rf_p f (rf_tv f rl ps y q) (y * rl + (rl)) (y * rl + rl)) := (rf_p_nil _ _ _).symm
  rw [e0] at hP hD
  refine rw_loopH (fun j : Nat => j) (fun j ls H locs => (j ≤ rl) ∧ lv_has ls 5 [(0, .ref h0), (1, .int (nI y)), (2, .int (nI q)), (3, .int (nI j - 1))] ∧ va_P (dC, dI) rw_cl [(h0, .inr (0, [.ref ab, .int (nI rc), .int (nI rl), .int (nI ps)])), (ab, .inl (cI, 4096, .inl (rf_p f (rf_tv f rl ps y q) (y * rl + j) (y * rl + rl))))] H ∧ va_D A [(h0, .inr (0, [.ref ab, .int (nI rc), .int (nI rl), .int (nI ps)])), (ab, .inl (cI, 4096, .inl (rf_p f (rf_tv f rl ps y q) (y * rl + j) (y * rl + rl))))] ∧ va_S A s.heap H locs) ?_ (rl) ⟨Nat.le_refl _, lv_sub hl [1, 2, 3, 0] rfl, hP, hD, hS⟩
  intro j ls H locs hI ih
  obtain ⟨hj, hl, hP, hD, hS⟩ := hI
  refine lv_iload_n hx hb dX0_tellRow_7 rfl (lv_at hl 3 rfl) ?_
  refine lv_if_lt (tgt := 53) hx hb dX0_tellRow_8 (by decide) (fun hc => ?_) (fun hc => ?_)
  · obtain rfl : j = 0 := rf_dn0 (by omega) hc
    exact W.vret hx hb hr (fun t ht hW => ⟨⟨(), rfl, trivial, by rw [ht]; exact hP, va_K.moved hW.alike hK, hD⟩, hS.F ht⟩) hS.2.2 dX0_tellRow_53
  · obtain ⟨z, rfl⟩ := rf_dn1 hc
    rw [nI_pred] at hl
    have hl : lv_has ls 5 [(0, .ref h0), (1, .int (nI y)), (2, .int (nI q)), (3, .int (nI z))] := hl
    have h3 := ok.k hy (show z < rl by omega)
    refine lv_iload_n hx hb dX0_tellRow_11 rfl (lv_at hl 1 rfl) ?_
    refine lv_aload_n hx hb dX0_tellRow_12 rfl (lv_at hl 0 rfl) ?_
    refine va_get (D := (dC, dI)) (ci := 0) (v := .int (nI rl)) (C := RX0) (T := TX0) (N := 4) hx hb hts (by decide +kernel) hown hK hP 0 rfl rfl 2 (by decide) (hts (.fieldLink RX0 17 "RowFilters" "rowLength" "I") (by decide +kernel)) (fun _ h9 => h9) rfl dX0_tellRow_13 ?_
    refine lv_imul hx hb dX0_tellRow_16 ?_
    refine lv_iload_n hx hb dX0_tellRow_17 rfl (lv_at hl 3 rfl) ?_
    refine lv_iadd hx hb dX0_tellRow_18 ?_
    refine W.eq (g2 := F0 m 19 ls [.int (nI (y * rl + z))]) (congrArg (fun z9 => F0 m 19 ls [.int z9]) (show (((nI y) * (nI rl)) + (nI z)) = nI (y * rl + z) from rf_ix y rl z)) ?_
    refine lv_istore hx hb dX0_tellRow_19 hl (by decide) rfl (fun ls hl => ?_)
    have hl : lv_has ls 5 [(4, .int (nI (y * rl + z))), (0, .ref h0), (1, .int (nI y)), (2, .int (nI q)), (3, .int (nI z))] := hl
    refine lv_aload_n hx hb dX0_tellRow_21 rfl (lv_at hl 1 rfl) ?_
    refine va_get (D := (dC, dI)) (ci := 0) (v := .ref ab) (C := RX0) (T := TX0) (N := 4) hx hb hts (by decide +kernel) hown hK hP 0 rfl rfl 0 (by decide) (hts (.fieldLink RX0 9 "RowFilters" "bytes" "[I") (by decide +kernel)) (fun _ h9 => h9) rfl dX0_tellRow_22 ?_
    refine lv_iload hx hb dX0_tellRow_25 (lv_at hl 0 rfl) ?_
    refine lv_aload_n hx hb dX0_tellRow_27 rfl (lv_at hl 1 rfl) ?_
    refine va_get (D := (dC, dI)) (ci := 0) (v := .ref ab) (C := RX0) (T := TX0) (N := 4) hx hb hts (by decide +kernel) hown hK hP 0 rfl rfl 0 (by decide) (hts (.fieldLink RX0 9 "RowFilters" "bytes" "[I") (by decide +kernel)) (fun _ h9 => h9) rfl dX0_tellRow_28 ?_
    refine lv_iload hx hb dX0_tellRow_31 (lv_at hl 0 rfl) ?_
    refine va_iald hx hb hK hP 1 0 rfl rfl (vp_in_nI h3 (by omega)) dX0_tellRow_33 ?_
    refine lv_topi (fun v ev => ?_)
    rw [nI_clamp (by omega), rf_p_out (by omega)] at ev
    refine lv_aload_n hx hb dX0_tellRow_34 rfl (lv_at hl 1 rfl) ?_
    refine lv_iload_n hx hb dX0_tellRow_35 rfl (lv_at hl 2 rfl) ?_
    refine lv_iload_n hx hb dX0_tellRow_36 rfl (lv_at hl 4 rfl) ?_
    refine lv_iload_n hx hb dX0_tellRow_37 rfl (lv_at hl 3 rfl) ?_
    refine vp_callSi (W.runV (C := RX0) (As := [.int (nI y), .int (nI z), .int (nI q)]) (rest := [.int v, .int (nI (y * rl + z)), .ref ab]) ⟨hx, hb, hml, hown, hts⟩ (c_X0_foretold l dC dI cI h0 ab rc rl ps (rf_p f (rf_tv f rl ps y q) (y * rl + (z + 1)) (y * rl + rl)) y z q ok hy (by omega) hq) (cwV 3 hts gX0_tellRow_X0_foretold rfl rfl rfl (by decide +kernel) ⟨Nat.le_of_ble_eq_true rfl, Nat.le_of_ble_eq_true rfl⟩) ⟨fun a U g mk q => by obtain ⟨q0, qP, qK⟩ := q; exact ⟨q0, qP, va_K.moved (u := U) (U := U.calling g mk a) (Vm.Alike.refl U.vm) qK⟩, va_recv hK hP (ci := 0) (q0 := 0) rfl rfl, fun U hU hW => ⟨rfl, by rw [hU]; exact hP, va_K.moved hW.alike hK⟩⟩ rfl rfl hl.1 rfl (lv_room (Nat.le_of_ble_eq_true rfl)) dX0_tellRow_38 ⟨Nat.zero_le _, Nat.zero_le _⟩) (fun rg eg => ?_)
    rw [rf_g_c (g := f) ok.2.2.2.1 (by omega) (fun k hk => rf_p_out (by omega))] at eg
    refine lv_isub hx hb dX0_tellRow_41 ?_
    refine lv_sipush (v := 255) hx hb dX0_tellRow_42 (by decide) ?_
    refine lv_iand hx hb dX0_tellRow_45 ?_
    refine va_iast hx hb hK hP hD hS 1 0 rfl rfl (vp_in_nI h3 (by omega)) dX0_tellRow_46 (fun H locs hP hD hS => ?_)
    have hP : va_P (dC, dI) rw_cl [(h0, .inr (0, [.ref ab, .int (nI rc), .int (nI rl), .int (nI ps)])), (ab, .inl (cI, 4096, .inl (upd (rf_p f (rf_tv f rl ps y q) (y * rl + (z + 1)) (y * rl + rl)) (nI (y * rl + z)).toNatClampNeg ((v - rg) &&& 255))))] H := hP
    have hD : va_D A [(h0, .inr (0, [.ref ab, .int (nI rc), .int (nI rl), .int (nI ps)])), (ab, .inl (cI, 4096, .inl (upd (rf_p f (rf_tv f rl ps y q) (y * rl + (z + 1)) (y * rl + rl)) (nI (y * rl + z)).toNatClampNeg ((v - rg) &&& 255))))] := hD
    refine lv_iinc (k := 4) (v := (nI z - 1)) hx hb dX0_tellRow_47 hl rfl (rf_dec z) (by decide) rfl (fun ls hl => ?_)
    have hl : lv_has ls 5 [(3, .int (nI z - 1)), (4, .int (nI (y * rl + z))), (0, .ref h0), (1, .int (nI y)), (2, .int (nI q))] := hl
    refine lv_goto (tgt := 7) hx hb dX0_tellRow_50 (by decide) ?_
    have e9 : (upd (rf_p f (rf_tv f rl ps y q) (y * rl + (z + 1)) (y * rl + rl)) (nI (y * rl + z)).toNatClampNeg ((v - rg) &&& 255)) = (rf_p f (rf_tv f rl ps y q) (y * rl + z) (y * rl + rl)) := by rw [nI_clamp (by omega)]; exact rf_p_dn (lo := y * rl + z) (hi := y * rl + rl) (by omega) (by rw [ev, eg]; unfold rf_tv rf_t; rw [Nat.add_sub_cancel_left])
    rw [e9] at hP hD
    exact ih (z) _ _ _ (Nat.lt_succ_self z) ⟨by omega, lv_sub hl [2, 3, 4, 0] rfl, hP, hD, hS⟩
set_option maxHeartbeats 4000000 in
set_option maxRecDepth 100000 in
theorem c_X0_restoreRow (l : Launch) (dC : Nat → ClassId) (dI : Nat → Nat → Nat) (cI : ClassId) (h0 ab rc rl ps : Nat) (f : Nat → Int32) (sz : Nat) (y q : Nat) (ok : rf_ok rc rl ps) (hy : y < rc) (hq : q ≤ 4) : Met l yX0_restoreRow wsX0_restoreRow ({ frames := 3, cells := 0, slots := 0, locals := 64 }) (va_Pc [.ref h0, .int (nI y), .int (nI q)] (rw_preD dC dI cI h0 ab rc rl ps f sz)) (va_Qv (fun _ : Unit => True) (fun _ t9 => rw_B dC dI cI h0 ab rc rl ps (rf_U f rl ps y q rl) (va_A (rw_W h0 ab cI rc rl ps f) sz) t9) (va_A (rw_W h0 ab cI rc rl ps f) sz)) 0 0 (va_A (rw_W h0 ab cI rc rl ps f) sz) := by
  refine Met.ofW (cc := cX0_restoreRow) (maxL := 5) (ret := none) (by decide) rfl ?_
  intro p e s m args below meth c s₁ B hml hv
  obtain ⟨rfl, hsz, hP, hK, hD0⟩ := hv
  have hx := B.exec
  have hb := B.bytes
  have hr := B.returns
  have hts := atoms_spec (ws := wsX0_restoreRow) B.pre
  have hown : s.vm.findClass RX0 = some m.cls := findClass_of_methodNamed B.named
  have hlocks := B.notSynchronized
  subst hsz
  have hD := hD0.self (sz := s.heap.size)
  generalize hAe : va_A (rw_W h0 ab cI rc rl ps f) s.heap.size = A at hD ⊢
  have hA : ∀ q : Nat, s.heap.size ≤ q → A q := fun q h => by rw [← hAe]; exact Or.inr h
  have hS : va_S A s.heap s.heap [] := va_S.rf
  have hP : va_P (dC, dI) rw_cl (rw_W h0 ab cI rc rl ps f) s.heap := hP
  have hl := lv_entry ([.ref h0, .int (nI y), .int (nI q)]) (n := 5) (Nat.le_of_ble_eq_true rfl)
  rw [lg_entry_eq]
  generalize (lg_sl ([.ref h0, .int (nI y), .int (nI q)]) ++ List.replicate (5 - (lg_sl ([.ref h0, .int (nI y), .int (nI q)])).length) Slot.unset).toArray = ls at hl ⊢
  have hl : lv_has ls 5 [(0, .ref h0), (1, .int (nI y)), (2, .int (nI q))] := hl
  have h1 := ok.rc
  have h2 := ok.rl
  have h5 := rf_row rl hy
  have h6 := ok.2.2.1
  refine lv_iconst (v := 0) hx hb dX0_restoreRow_0 (by decide) ?_
  refine lv_istore_n hx hb dX0_restoreRow_1 rfl hl (by decide) rfl (fun ls hl => ?_)
  have hl : lv_has ls 5 [(3, .int 0), (0, .ref h0), (1, .int (nI y)), (2, .int (nI q))] := hl
  have e0 : f = (rf_U f rl ps y q (0)) := rfl
  rw [e0] at hP hD
  refine rw_loopH (fun z : Nat => rl - z) (fun z ls H locs => (z ≤ rl) ∧ lv_has ls 5 [(0, .ref h0), (1, .int (nI y)), (2, .int (nI q)), (3, .int (nI z))] ∧ va_P (dC, dI) rw_cl [(h0, .inr (0, [.ref ab, .int (nI rc), .int (nI rl), .int (nI ps)])), (ab, .inl (cI, 4096, .inl (rf_U f rl ps y q z)))] H ∧ va_D A [(h0, .inr (0, [.ref ab, .int (nI rc), .int (nI rl), .int (nI ps)])), (ab, .inl (cI, 4096, .inl (rf_U f rl ps y q z)))] ∧ va_S A s.heap H locs) ?_ (0) ⟨Nat.zero_le _, lv_sub hl [1, 2, 3, 0] rfl, hP, hD, hS⟩
  intro z ls H locs hI ih
  obtain ⟨hj, hl, hP, hD, hS⟩ := hI
  refine lv_iload_n hx hb dX0_restoreRow_2 rfl (lv_at hl 3 rfl) ?_
  refine lv_aload_n hx hb dX0_restoreRow_3 rfl (lv_at hl 0 rfl) ?_
  refine va_get (D := (dC, dI)) (ci := 0) (v := .int (nI rl)) (C := RX0) (T := TX0) (N := 4) hx hb hts (by decide +kernel) hown hK hP 0 rfl rfl 2 (by decide) (hts (.fieldLink RX0 17 "RowFilters" "rowLength" "I") (by decide +kernel)) (fun _ h9 => h9) rfl dX0_restoreRow_4 ?_
  refine lv_icmp_ge (tgt := 52) hx hb dX0_restoreRow_7 (by decide) (fun hc => ?_) (fun hc => ?_)
  · have hi : z = rl := by have := (nI_leI (by omega) (by omega)).mp hc; omega
    rw [hi] at hP hD
    exact W.vret hx hb hr (fun t ht hW => ⟨⟨(), rfl, trivial, by rw [ht]; exact hP, va_K.moved hW.alike hK, hD⟩, hS.F ht⟩) hS.2.2 dX0_restoreRow_52
  · have hi : z < rl := Nat.lt_of_not_le (fun q => hc ((nI_leI (by omega) (by omega)).mpr q))
    have h3 := ok.k hy hi
    refine lv_iload_n hx hb dX0_restoreRow_10 rfl (lv_at hl 1 rfl) ?_
    refine lv_aload_n hx hb dX0_restoreRow_11 rfl (lv_at hl 0 rfl) ?_
    refine va_get (D := (dC, dI)) (ci := 0) (v := .int (nI rl)) (C := RX0) (T := TX0) (N := 4) hx hb hts (by decide +kernel) hown hK hP 0 rfl rfl 2 (by decide) (hts (.fieldLink RX0 17 "RowFilters" "rowLength" "I") (by decide +kernel)) (fun _ h9 => h9) rfl dX0_restoreRow_12 ?_
    refine lv_imul hx hb dX0_restoreRow_15 ?_
    refine lv_iload_n hx hb dX0_restoreRow_16 rfl (lv_at hl 3 rfl) ?_
    refine lv_iadd hx hb dX0_restoreRow_17 ?_
    refine W.eq (g2 := F0 m 18 ls [.int (nI (y * rl + z))]) (congrArg (fun z9 => F0 m 18 ls [.int z9]) (show (((nI y) * (nI rl)) + (nI z)) = nI (y * rl + z) from rf_ix y rl z)) ?_
    refine lv_istore hx hb dX0_restoreRow_18 hl (by decide) rfl (fun ls hl => ?_)
    have hl : lv_has ls 5 [(4, .int (nI (y * rl + z))), (0, .ref h0), (1, .int (nI y)), (2, .int (nI q)), (3, .int (nI z))] := hl
    refine lv_aload_n hx hb dX0_restoreRow_20 rfl (lv_at hl 1 rfl) ?_
    refine va_get (D := (dC, dI)) (ci := 0) (v := .ref ab) (C := RX0) (T := TX0) (N := 4) hx hb hts (by decide +kernel) hown hK hP 0 rfl rfl 0 (by decide) (hts (.fieldLink RX0 9 "RowFilters" "bytes" "[I") (by decide +kernel)) (fun _ h9 => h9) rfl dX0_restoreRow_21 ?_
    refine lv_iload hx hb dX0_restoreRow_24 (lv_at hl 0 rfl) ?_
    refine lv_aload_n hx hb dX0_restoreRow_26 rfl (lv_at hl 1 rfl) ?_
    refine va_get (D := (dC, dI)) (ci := 0) (v := .ref ab) (C := RX0) (T := TX0) (N := 4) hx hb hts (by decide +kernel) hown hK hP 0 rfl rfl 0 (by decide) (hts (.fieldLink RX0 9 "RowFilters" "bytes" "[I") (by decide +kernel)) (fun _ h9 => h9) rfl dX0_restoreRow_27 ?_
    refine lv_iload hx hb dX0_restoreRow_30 (lv_at hl 0 rfl) ?_
    refine va_iald hx hb hK hP 1 0 rfl rfl (vp_in_nI h3 (by omega)) dX0_restoreRow_32 ?_
    refine lv_topi (fun v ev => ?_)
    rw [nI_clamp (by omega)] at ev
    refine lv_aload_n hx hb dX0_restoreRow_33 rfl (lv_at hl 1 rfl) ?_
    refine lv_iload_n hx hb dX0_restoreRow_34 rfl (lv_at hl 2 rfl) ?_
    refine lv_iload_n hx hb dX0_restoreRow_35 rfl (lv_at hl 4 rfl) ?_
    refine lv_iload_n hx hb dX0_restoreRow_36 rfl (lv_at hl 3 rfl) ?_
    refine vp_callSi (W.runV (C := RX0) (As := [.int (nI y), .int (nI z), .int (nI q)]) (rest := [.int v, .int (nI (y * rl + z)), .ref ab]) ⟨hx, hb, hml, hown, hts⟩ (c_X0_foretold l dC dI cI h0 ab rc rl ps (rf_U f rl ps y q z) y z q ok hy hi hq) (cwV 3 hts gX0_restoreRow_X0_foretold rfl rfl rfl (by decide +kernel) ⟨Nat.le_of_ble_eq_true rfl, Nat.le_of_ble_eq_true rfl⟩) ⟨fun a U g mk q => by obtain ⟨q0, qP, qK⟩ := q; exact ⟨q0, qP, va_K.moved (u := U) (U := U.calling g mk a) (Vm.Alike.refl U.vm) qK⟩, va_recv hK hP (ci := 0) (q0 := 0) rfl rfl, fun U hU hW => ⟨rfl, by rw [hU]; exact hP, va_K.moved hW.alike hK⟩⟩ rfl rfl hl.1 rfl (lv_room (Nat.le_of_ble_eq_true rfl)) dX0_restoreRow_37 ⟨Nat.zero_le _, Nat.zero_le _⟩) (fun rg eg => ?_)
    refine lv_iadd hx hb dX0_restoreRow_40 ?_
    refine lv_sipush (v := 255) hx hb dX0_restoreRow_41 (by decide) ?_
    refine lv_iand hx hb dX0_restoreRow_44 ?_
    refine va_iast hx hb hK hP hD hS 1 0 rfl rfl (vp_in_nI h3 (by omega)) dX0_restoreRow_45 (fun H locs hP hD hS => ?_)
    have hP : va_P (dC, dI) rw_cl [(h0, .inr (0, [.ref ab, .int (nI rc), .int (nI rl), .int (nI ps)])), (ab, .inl (cI, 4096, .inl (upd (rf_U f rl ps y q z) (nI (y * rl + z)).toNatClampNeg ((v + rg) &&& 255))))] H := hP
    have hD : va_D A [(h0, .inr (0, [.ref ab, .int (nI rc), .int (nI rl), .int (nI ps)])), (ab, .inl (cI, 4096, .inl (upd (rf_U f rl ps y q z) (nI (y * rl + z)).toNatClampNeg ((v + rg) &&& 255))))] := hD
    refine lv_iinc (k := 4) (v := (nI (z + 1))) hx hb dX0_restoreRow_46 hl rfl (rf_inc z) (by decide) rfl (fun ls hl => ?_)
    have hl : lv_has ls 5 [(3, .int (nI (z + 1))), (4, .int (nI (y * rl + z))), (0, .ref h0), (1, .int (nI y)), (2, .int (nI q))] := hl
    refine lv_goto (tgt := 2) hx hb dX0_restoreRow_49 (by decide) ?_
    have e9 : (upd (rf_U f rl ps y q z) (nI (y * rl + z)).toNatClampNeg ((v + rg) &&& 255)) = (rf_U f rl ps y q (z + 1)) := by rw [nI_clamp (by omega), ev, eg]; rfl
    rw [e9] at hP hD
    exact ih (z + 1) _ _ _ (by show rl - (z + 1) < rl - z; omega) ⟨by omega, lv_sub hl [2, 3, 4, 0] rfl, hP, hD, hS⟩
end
section
set_option maxHeartbeats 4000000 in
set_option maxRecDepth 100000 in
theorem c_X0_requireWithin (l : Launch) (x lo hi : Int32) (h1 : ¬ x < lo) (h2 : ¬ hi < x) : Met l yX0_requireWithin wsX0_requireWithin ({ frames := 0, cells := 0, slots := 0, locals := 0 }) (va_Pc [.int x, .int lo, .int hi] (fun _ => True)) (va_Sv (fun _ => True)) 0 0 (fun _ => False) := by
  refine Met.ofW (cc := cX0_requireWithin) (maxL := 3) (ret := none) (by decide) rfl ?_
  intro p e s m args below meth c s₁ B hml hv
  obtain ⟨rfl, -⟩ := hv
  have hx := B.exec
  have hb := B.bytes
  have hr := B.returns
  have hts := atoms_spec (ws := wsX0_requireWithin) B.pre
  have hown : s.vm.findClass RX0 = some m.cls := findClass_of_methodNamed B.named
  have hlocks := B.notSynchronized
  have hl := lv_entry ([.int x, .int lo, .int hi]) (n := 3) (Nat.le_of_ble_eq_true rfl)
  rw [lg_entry_eq]
  generalize (lg_sl ([.int x, .int lo, .int hi]) ++ List.replicate (3 - (lg_sl ([.int x, .int lo, .int hi])).length) Slot.unset).toArray = ls at hl ⊢
  have hl : lv_has ls 3 [(0, .int x), (1, .int lo), (2, .int hi)] := hl
  refine lv_iload_n hx hb dX0_requireWithin_0 rfl (lv_at hl 0 rfl) ?_
  refine lv_iload_n hx hb dX0_requireWithin_1 rfl (lv_at hl 1 rfl) ?_
  refine lv_icmp_lt (tgt := 10) hx hb dX0_requireWithin_2 (by decide) (fun q1 => ?_) (fun q1 => ?_)
  · exact absurd q1 h1
  · refine lv_iload_n hx hb dX0_requireWithin_5 rfl (lv_at hl 0 rfl) ?_
    refine lv_iload_n hx hb dX0_requireWithin_6 rfl (lv_at hl 2 rfl) ?_
    refine lv_icmp_le (tgt := 20) hx hb dX0_requireWithin_7 (by decide) (fun q2 => ?_) (fun q2 => ?_)
    · exact W.vret hx hb hr (fun t ht hW => ⟨rfl, trivial, ht⟩) (fun q h => by cases h) dX0_requireWithin_20
    · exact absurd (Int32.not_le.mp q2) h2
set_option maxHeartbeats 4000000 in
set_option maxRecDepth 100000 in
theorem c_X0_requireRow (l : Launch) (dC : Nat → ClassId) (dI : Nat → Nat → Nat) (cI : ClassId) (h0 ab rc rl ps : Nat) (f : Nat → Int32) (y : Int32) (h1 : ¬ y < 0) (h2 : ¬ nI rc - 1 < y) : Met l yX0_requireRow wsX0_requireRow ({ frames := 1, cells := 0, slots := 0, locals := 22 }) (va_Pc [.ref h0, .int y] (rw_pre dC dI cI h0 ab rc rl ps f)) (va_Sv (fun _ => True)) 0 0 (fun _ => False) := by
  refine Met.ofW (cc := cX0_requireRow) (maxL := 2) (ret := none) (by decide) rfl ?_
  intro p e s m args below meth c s₁ B hml hv
  obtain ⟨rfl, hP, hK⟩ := hv
  have hx := B.exec
  have hb := B.bytes
  have hr := B.returns
  have hts := atoms_spec (ws := wsX0_requireRow) B.pre
  have hown : s.vm.findClass RX0 = some m.cls := findClass_of_methodNamed B.named
  have hlocks := B.notSynchronized
  have hP : va_P (dC, dI) rw_cl (rw_W h0 ab cI rc rl ps f) s.heap := hP
  have hl := lv_entry ([.ref h0, .int y]) (n := 2) (Nat.le_of_ble_eq_true rfl)
  rw [lg_entry_eq]
  generalize (lg_sl ([.ref h0, .int y]) ++ List.replicate (2 - (lg_sl ([.ref h0, .int y])).length) Slot.unset).toArray = ls at hl ⊢
  have hl : lv_has ls 2 [(0, .ref h0), (1, .int y)] := hl
  refine lv_iload_n hx hb dX0_requireRow_0 rfl (lv_at hl 1 rfl) ?_
  refine lv_iconst (v := 0) hx hb dX0_requireRow_1 (by decide) ?_
  refine lv_aload_n hx hb dX0_requireRow_2 rfl (lv_at hl 0 rfl) ?_
  refine va_get (D := (dC, dI)) (ci := 0) (v := .int (nI rc)) (C := RX0) (T := TX0) (N := 4) hx hb hts (by decide +kernel) hown hK hP 0 rfl rfl 1 (by decide) (hts (.fieldLink RX0 13 "RowFilters" "rowCount" "I") (by decide +kernel)) (fun _ h9 => h9) rfl dX0_requireRow_3 ?_
  refine lv_iconst (v := 1) hx hb dX0_requireRow_6 (by decide) ?_
  refine lv_isub hx hb dX0_requireRow_7 ?_
  refine va_csv (W.runS (As := [.int y, .int 0, .int ((nI rc) - 1)]) (rest := []) ⟨hx, hb, hml, hown, hts⟩ (c_X0_requireWithin l y 0 (nI rc - 1) h1 h2) (va_cwS 3 hts gX0_requireRow_X0_requireWithin rfl rfl rfl (by decide +kernel) ⟨Nat.le_of_ble_eq_true rfl, Nat.le_of_ble_eq_true rfl⟩) ⟨fun _ _ _ _ q => q, fun U hU hW => ⟨rfl, trivial⟩⟩ rfl rfl hl.1 rfl (lv_room (Nat.le_of_ble_eq_true rfl)) dX0_requireRow_8 ⟨Nat.zero_le _, Nat.zero_le _⟩) (fun _ => ?_)
  exact W.vret hx hb hr (fun t ht hW => ⟨rfl, trivial, ht⟩) (fun q h => by cases h) dX0_requireRow_11
set_option maxHeartbeats 4000000 in
set_option maxRecDepth 100000 in
theorem c_X0_requireFilter (l : Launch) (q : Int32) (h1 : ¬ q < 0) (h2 : ¬ 4 < q) : Met l yX0_requireFilter wsX0_requireFilter ({ frames := 1, cells := 0, slots := 0, locals := 22 }) (va_Pc [.int q] (fun _ => True)) (va_Sv (fun _ => True)) 0 0 (fun _ => False) := by
  refine Met.ofW (cc := cX0_requireFilter) (maxL := 1) (ret := none) (by decide) rfl ?_
  intro p e s m args below meth c s₁ B hml hv
  obtain ⟨rfl, -⟩ := hv
  have hx := B.exec
  have hb := B.bytes
  have hr := B.returns
  have hts := atoms_spec (ws := wsX0_requireFilter) B.pre
  have hown : s.vm.findClass RX0 = some m.cls := findClass_of_methodNamed B.named
  have hlocks := B.notSynchronized
  have hl := lv_entry ([.int q]) (n := 1) (Nat.le_of_ble_eq_true rfl)
  rw [lg_entry_eq]
  generalize (lg_sl ([.int q]) ++ List.replicate (1 - (lg_sl ([.int q])).length) Slot.unset).toArray = ls at hl ⊢
  have hl : lv_has ls 1 [(0, .int q)] := hl
  refine lv_iload_n hx hb dX0_requireFilter_0 rfl (lv_at hl 0 rfl) ?_
  refine lv_iconst (v := 0) hx hb dX0_requireFilter_1 (by decide) ?_
  refine lv_iconst (v := 4) hx hb dX0_requireFilter_2 (by decide) ?_
  refine va_csv (W.runS (As := [.int q, .int 0, .int 4]) (rest := []) ⟨hx, hb, hml, hown, hts⟩ (c_X0_requireWithin l q 0 4 h1 h2) (va_cwS 3 hts gX0_requireFilter_X0_requireWithin rfl rfl rfl (by decide +kernel) ⟨Nat.le_of_ble_eq_true rfl, Nat.le_of_ble_eq_true rfl⟩) ⟨fun _ _ _ _ q => q, fun U hU hW => ⟨rfl, trivial⟩⟩ rfl rfl hl.1 rfl (lv_room (Nat.le_of_ble_eq_true rfl)) dX0_requireFilter_3 ⟨Nat.zero_le _, Nat.zero_le _⟩) (fun _ => ?_)
  exact W.vret hx hb hr (fun t ht hW => ⟨rfl, trivial, ht⟩) (fun q h => by cases h) dX0_requireFilter_6
set_option maxHeartbeats 4000000 in
set_option maxRecDepth 100000 in
theorem c_X0_requireByte (l : Launch) (dC : Nat → ClassId) (dI : Nat → Nat → Nat) (cI : ClassId) (h0 ab rc rl ps : Nat) (f : Nat → Int32) (y i : Int32) (h1 : ¬ y < 0) (h2 : ¬ nI rc - 1 < y) (h3 : ¬ i < 0) (h4 : ¬ nI rl - 1 < i) : Met l yX0_requireByte wsX0_requireByte ({ frames := 2, cells := 0, slots := 0, locals := 43 }) (va_Pc [.ref h0, .int y, .int i] (rw_pre dC dI cI h0 ab rc rl ps f)) (va_Sv (fun _ => True)) 0 0 (fun _ => False) := by
  refine Met.ofW (cc := cX0_requireByte) (maxL := 3) (ret := none) (by decide) rfl ?_
  intro p e s m args below meth c s₁ B hml hv
  obtain ⟨rfl, hP, hK⟩ := hv
  have hx := B.exec
  have hb := B.bytes
  have hr := B.returns
  have hts := atoms_spec (ws := wsX0_requireByte) B.pre
  have hown : s.vm.findClass RX0 = some m.cls := findClass_of_methodNamed B.named
  have hlocks := B.notSynchronized
  have hP : va_P (dC, dI) rw_cl (rw_W h0 ab cI rc rl ps f) s.heap := hP
  have hl := lv_entry ([.ref h0, .int y, .int i]) (n := 3) (Nat.le_of_ble_eq_true rfl)
  rw [lg_entry_eq]
  generalize (lg_sl ([.ref h0, .int y, .int i]) ++ List.replicate (3 - (lg_sl ([.ref h0, .int y, .int i])).length) Slot.unset).toArray = ls at hl ⊢
  have hl : lv_has ls 3 [(0, .ref h0), (1, .int y), (2, .int i)] := hl
  refine lv_aload_n hx hb dX0_requireByte_0 rfl (lv_at hl 0 rfl) ?_
  refine lv_iload_n hx hb dX0_requireByte_1 rfl (lv_at hl 1 rfl) ?_
  refine va_csv (W.runV (C := RX0) (As := [.int y]) (rest := []) ⟨hx, hb, hml, hown, hts⟩ (c_X0_requireRow l dC dI cI h0 ab rc rl ps f y h1 h2) (cwV 1 hts gX0_requireByte_X0_requireRow rfl rfl rfl (by decide +kernel) ⟨Nat.le_of_ble_eq_true rfl, Nat.le_of_ble_eq_true rfl⟩) ⟨fun a U g mk q => by obtain ⟨q0, qP, qK⟩ := q; exact ⟨q0, qP, va_K.moved (u := U) (U := U.calling g mk a) (Vm.Alike.refl U.vm) qK⟩, va_recv hK hP (ci := 0) (q0 := 0) rfl rfl, fun U hU hW => ⟨rfl, by rw [hU]; exact hP, va_K.moved hW.alike hK⟩⟩ rfl rfl hl.1 rfl (lv_room (Nat.le_of_ble_eq_true rfl)) dX0_requireByte_2 ⟨Nat.zero_le _, Nat.zero_le _⟩) (fun _ => ?_)
  refine lv_iload_n hx hb dX0_requireByte_5 rfl (lv_at hl 2 rfl) ?_
  refine lv_iconst (v := 0) hx hb dX0_requireByte_6 (by decide) ?_
  refine lv_aload_n hx hb dX0_requireByte_7 rfl (lv_at hl 0 rfl) ?_
  refine va_get (D := (dC, dI)) (ci := 0) (v := .int (nI rl)) (C := RX0) (T := TX0) (N := 4) hx hb hts (by decide +kernel) hown hK hP 0 rfl rfl 2 (by decide) (hts (.fieldLink RX0 17 "RowFilters" "rowLength" "I") (by decide +kernel)) (fun _ h9 => h9) rfl dX0_requireByte_8 ?_
  refine lv_iconst (v := 1) hx hb dX0_requireByte_11 (by decide) ?_
  refine lv_isub hx hb dX0_requireByte_12 ?_
  refine va_csv (W.runS (As := [.int i, .int 0, .int ((nI rl) - 1)]) (rest := []) ⟨hx, hb, hml, hown, hts⟩ (c_X0_requireWithin l i 0 (nI rl - 1) h3 h4) (va_cwS 3 hts gX0_requireByte_X0_requireWithin rfl rfl rfl (by decide +kernel) ⟨Nat.le_of_ble_eq_true rfl, Nat.le_of_ble_eq_true rfl⟩) ⟨fun _ _ _ _ q => q, fun U hU hW => ⟨rfl, trivial⟩⟩ rfl rfl hl.1 rfl (lv_room (Nat.le_of_ble_eq_true rfl)) dX0_requireByte_13 ⟨Nat.zero_le _, Nat.zero_le _⟩) (fun _ => ?_)
  exact W.vret hx hb hr (fun t ht hW => ⟨rfl, trivial, ht⟩) (fun q h => by cases h) dX0_requireByte_16
end
section
set_option maxHeartbeats 4000000 in
set_option maxRecDepth 100000 in
theorem c_X0_get (l : Launch) (dC : Nat → ClassId) (dI : Nat → Nat → Nat) (cI : ClassId) (h0 ab rc rl ps : Nat) (f : Nat → Int32) (y i : Nat) (ok : rf_ok rc rl ps) (hy : y < rc) (hi : i < rl) : Met l yX0_get wsX0_get ({ frames := 3, cells := 0, slots := 0, locals := 65 }) (va_Pc [.ref h0, .int (nI y), .int (nI i)] (rw_pre dC dI cI h0 ab rc rl ps f)) (vp_Si (fun r => r = f (y * rl + i))) 0 0 (fun _ => False) := by
  refine Met.ofW (cc := cX0_get) (maxL := 3) (ret := (some .int)) (by decide) rfl ?_
  intro p e s m args below meth c s₁ B hml hv
  obtain ⟨rfl, hP, hK⟩ := hv
  have hx := B.exec
  have hb := B.bytes
  have hr := B.returns
  have hts := atoms_spec (ws := wsX0_get) B.pre
  have hown : s.vm.findClass RX0 = some m.cls := findClass_of_methodNamed B.named
  have hlocks := B.notSynchronized
  have hP : va_P (dC, dI) rw_cl (rw_W h0 ab cI rc rl ps f) s.heap := hP
  have hl := lv_entry ([.ref h0, .int (nI y), .int (nI i)]) (n := 3) (Nat.le_of_ble_eq_true rfl)
  rw [lg_entry_eq]
  generalize (lg_sl ([.ref h0, .int (nI y), .int (nI i)]) ++ List.replicate (3 - (lg_sl ([.ref h0, .int (nI y), .int (nI i)])).length) Slot.unset).toArray = ls at hl ⊢
  have hl : lv_has ls 3 [(0, .ref h0), (1, .int (nI y)), (2, .int (nI i))] := hl
  have h1 := ok.rc
  have h2 := ok.rl
  have h3 := ok.k hy hi
  refine lv_aload_n hx hb dX0_get_0 rfl (lv_at hl 0 rfl) ?_
  refine lv_iload_n hx hb dX0_get_1 rfl (lv_at hl 1 rfl) ?_
  refine lv_iload_n hx hb dX0_get_2 rfl (lv_at hl 2 rfl) ?_
  refine va_csv (W.runV (C := RX0) (As := [.int (nI y), .int (nI i)]) (rest := []) ⟨hx, hb, hml, hown, hts⟩ (c_X0_requireByte l dC dI cI h0 ab rc rl ps f (nI y) (nI i) (nI_pos (by omega)) (rf_hi hy h1) (nI_pos (by omega)) (rf_hi hi h2)) (cwV 2 hts gX0_get_X0_requireByte rfl rfl rfl (by decide +kernel) ⟨Nat.le_of_ble_eq_true rfl, Nat.le_of_ble_eq_true rfl⟩) ⟨fun a U g mk q => by obtain ⟨q0, qP, qK⟩ := q; exact ⟨q0, qP, va_K.moved (u := U) (U := U.calling g mk a) (Vm.Alike.refl U.vm) qK⟩, va_recv hK hP (ci := 0) (q0 := 0) rfl rfl, fun U hU hW => ⟨rfl, by rw [hU]; exact hP, va_K.moved hW.alike hK⟩⟩ rfl rfl hl.1 rfl (lv_room (Nat.le_of_ble_eq_true rfl)) dX0_get_3 ⟨Nat.zero_le _, Nat.zero_le _⟩) (fun _ => ?_)
  refine lv_aload_n hx hb dX0_get_6 rfl (lv_at hl 0 rfl) ?_
  refine va_get (D := (dC, dI)) (ci := 0) (v := .ref ab) (C := RX0) (T := TX0) (N := 4) hx hb hts (by decide +kernel) hown hK hP 0 rfl rfl 0 (by decide) (hts (.fieldLink RX0 9 "RowFilters" "bytes" "[I") (by decide +kernel)) (fun _ h9 => h9) rfl dX0_get_7 ?_
  refine lv_iload_n hx hb dX0_get_10 rfl (lv_at hl 1 rfl) ?_
  refine lv_aload_n hx hb dX0_get_11 rfl (lv_at hl 0 rfl) ?_
  refine va_get (D := (dC, dI)) (ci := 0) (v := .int (nI rl)) (C := RX0) (T := TX0) (N := 4) hx hb hts (by decide +kernel) hown hK hP 0 rfl rfl 2 (by decide) (hts (.fieldLink RX0 17 "RowFilters" "rowLength" "I") (by decide +kernel)) (fun _ h9 => h9) rfl dX0_get_12 ?_
  refine lv_imul hx hb dX0_get_15 ?_
  refine lv_iload_n hx hb dX0_get_16 rfl (lv_at hl 2 rfl) ?_
  refine lv_iadd hx hb dX0_get_17 ?_
  refine W.eq (g2 := F0 m 18 ls [.int (nI (y * rl + i)), .ref ab]) (congrArg (fun z9 => F0 m 18 ls [.int z9, .ref ab]) (show (((nI y) * (nI rl)) + (nI i)) = nI (y * rl + i) from rf_ix y rl i)) ?_
  refine va_iald hx hb hK hP 1 0 rfl rfl (vp_in_nI h3 (by omega)) dX0_get_18 ?_
  exact W.iret (v := (f (nI (y * rl + i)).toNatClampNeg)) hx hb hr (fun t ht hW => ⟨(f (nI (y * rl + i)).toNatClampNeg), rfl, by rw [nI_clamp (by omega)], ht⟩) (fun q h => by cases h) dX0_get_19
set_option maxHeartbeats 4000000 in
set_option maxRecDepth 100000 in
theorem c_X0_set (l : Launch) (dC : Nat → ClassId) (dI : Nat → Nat → Nat) (cI : ClassId) (h0 ab rc rl ps : Nat) (f : Nat → Int32) (sz : Nat) (y i : Nat) (v : Int32) (ok : rf_ok rc rl ps) (hy : y < rc) (hi : i < rl) (hv1 : ¬ v < 0) (hv2 : ¬ 255 < v) : Met l yX0_set wsX0_set ({ frames := 3, cells := 0, slots := 0, locals := 65 }) (va_Pc [.ref h0, .int (nI y), .int (nI i), .int v] (rw_preD dC dI cI h0 ab rc rl ps f sz)) (va_Qi (fun (r : Int32) (_ : Unit) => r = f (y * rl + i)) (fun _ t9 => rw_B dC dI cI h0 ab rc rl ps (upd f (y * rl + i) v) (va_A (rw_W h0 ab cI rc rl ps f) sz) t9) (va_A (rw_W h0 ab cI rc rl ps f) sz)) 0 0 (va_A (rw_W h0 ab cI rc rl ps f) sz) := by
  refine Met.ofW (cc := cX0_set) (maxL := 6) (ret := (some .int)) (by decide) rfl ?_
  intro p e s m args below meth c s₁ B hml hv
  obtain ⟨rfl, hsz, hP, hK, hD0⟩ := hv
  have hx := B.exec
  have hb := B.bytes
  have hr := B.returns
  have hts := atoms_spec (ws := wsX0_set) B.pre
  have hown : s.vm.findClass RX0 = some m.cls := findClass_of_methodNamed B.named
  have hlocks := B.notSynchronized
  subst hsz
  have hD := hD0.self (sz := s.heap.size)
  generalize hAe : va_A (rw_W h0 ab cI rc rl ps f) s.heap.size = A at hD ⊢
  have hA : ∀ q : Nat, s.heap.size ≤ q → A q := fun q h => by rw [← hAe]; exact Or.inr h
  have hS : va_S A s.heap s.heap [] := va_S.rf
  have hP : va_P (dC, dI) rw_cl (rw_W h0 ab cI rc rl ps f) s.heap := hP
  have hl := lv_entry ([.ref h0, .int (nI y), .int (nI i), .int v]) (n := 6) (Nat.le_of_ble_eq_true rfl)
  rw [lg_entry_eq]
  generalize (lg_sl ([.ref h0, .int (nI y), .int (nI i), .int v]) ++ List.replicate (6 - (lg_sl ([.ref h0, .int (nI y), .int (nI i), .int v])).length) Slot.unset).toArray = ls at hl ⊢
  have hl : lv_has ls 6 [(0, .ref h0), (1, .int (nI y)), (2, .int (nI i)), (3, .int v)] := hl
  have h1 := ok.rc
  have h2 := ok.rl
  have h3 := ok.k hy hi
  refine lv_aload_n hx hb dX0_set_0 rfl (lv_at hl 0 rfl) ?_
  refine lv_iload_n hx hb dX0_set_1 rfl (lv_at hl 1 rfl) ?_
  refine lv_iload_n hx hb dX0_set_2 rfl (lv_at hl 2 rfl) ?_
  refine va_csv (W.runV (C := RX0) (As := [.int (nI y), .int (nI i)]) (rest := []) ⟨hx, hb, hml, hown, hts⟩ (c_X0_requireByte l dC dI cI h0 ab rc rl ps f (nI y) (nI i) (nI_pos (by omega)) (rf_hi hy h1) (nI_pos (by omega)) (rf_hi hi h2)) (cwV 2 hts gX0_set_X0_requireByte rfl rfl rfl (by decide +kernel) ⟨Nat.le_of_ble_eq_true rfl, Nat.le_of_ble_eq_true rfl⟩) ⟨fun a U g mk q => by obtain ⟨q0, qP, qK⟩ := q; exact ⟨q0, qP, va_K.moved (u := U) (U := U.calling g mk a) (Vm.Alike.refl U.vm) qK⟩, va_recv hK hP (ci := 0) (q0 := 0) rfl rfl, fun U hU hW => ⟨rfl, by rw [hU]; exact hP, va_K.moved hW.alike hK⟩⟩ rfl rfl hl.1 rfl (lv_room (Nat.le_of_ble_eq_true rfl)) dX0_set_3 ⟨Nat.zero_le _, Nat.zero_le _⟩) (fun _ => ?_)
  refine lv_iload_n hx hb dX0_set_6 rfl (lv_at hl 3 rfl) ?_
  refine lv_iconst (v := 0) hx hb dX0_set_7 (by decide) ?_
  refine lv_sipush (v := 255) hx hb dX0_set_8 (by decide) ?_
  refine va_csv (W.runS (As := [.int v, .int 0, .int 255]) (rest := []) ⟨hx, hb, hml, hown, hts⟩ (c_X0_requireWithin l v 0 255 hv1 hv2) (va_cwS 3 hts gX0_set_X0_requireWithin rfl rfl rfl (by decide +kernel) ⟨Nat.le_of_ble_eq_true rfl, Nat.le_of_ble_eq_true rfl⟩) ⟨fun _ _ _ _ q => q, fun U hU hW => ⟨rfl, trivial⟩⟩ rfl rfl hl.1 rfl (lv_room (Nat.le_of_ble_eq_true rfl)) dX0_set_11 ⟨Nat.zero_le _, Nat.zero_le _⟩) (fun _ => ?_)
  refine lv_iload_n hx hb dX0_set_14 rfl (lv_at hl 1 rfl) ?_
  refine lv_aload_n hx hb dX0_set_15 rfl (lv_at hl 0 rfl) ?_
  refine va_get (D := (dC, dI)) (ci := 0) (v := .int (nI rl)) (C := RX0) (T := TX0) (N := 4) hx hb hts (by decide +kernel) hown hK hP 0 rfl rfl 2 (by decide) (hts (.fieldLink RX0 17 "RowFilters" "rowLength" "I") (by decide +kernel)) (fun _ h9 => h9) rfl dX0_set_16 ?_
  refine lv_imul hx hb dX0_set_19 ?_
  refine lv_iload_n hx hb dX0_set_20 rfl (lv_at hl 2 rfl) ?_
  refine lv_iadd hx hb dX0_set_21 ?_
  refine W.eq (g2 := F0 m 22 ls [.int (nI (y * rl + i))]) (congrArg (fun z9 => F0 m 22 ls [.int z9]) (show (((nI y) * (nI rl)) + (nI i)) = nI (y * rl + i) from rf_ix y rl i)) ?_
  refine lv_istore hx hb dX0_set_22 hl (by decide) rfl (fun ls hl => ?_)
  have hl : lv_has ls 6 [(4, .int (nI (y * rl + i))), (0, .ref h0), (1, .int (nI y)), (2, .int (nI i)), (3, .int v)] := hl
  refine lv_aload_n hx hb dX0_set_24 rfl (lv_at hl 1 rfl) ?_
  refine va_get (D := (dC, dI)) (ci := 0) (v := .ref ab) (C := RX0) (T := TX0) (N := 4) hx hb hts (by decide +kernel) hown hK hP 0 rfl rfl 0 (by decide) (hts (.fieldLink RX0 9 "RowFilters" "bytes" "[I") (by decide +kernel)) (fun _ h9 => h9) rfl dX0_set_25 ?_
  refine lv_iload hx hb dX0_set_28 (lv_at hl 0 rfl) ?_
  refine va_iald hx hb hK hP 1 0 rfl rfl (vp_in_nI h3 (by omega)) dX0_set_30 ?_
  refine W.eq (g2 := F0 m 31 ls [.int (f (y * rl + i))]) (congrArg (fun z9 => F0 m 31 ls [.int z9]) (show (f (nI (y * rl + i)).toNatClampNeg) = f (y * rl + i) from by rw [nI_clamp (by omega)])) ?_
  refine lv_istore hx hb dX0_set_31 hl (by decide) rfl (fun ls hl => ?_)
  have hl : lv_has ls 6 [(5, .int (f (y * rl + i))), (4, .int (nI (y * rl + i))), (0, .ref h0), (1, .int (nI y)), (2, .int (nI i)), (3, .int v)] := hl
  refine lv_aload_n hx hb dX0_set_33 rfl (lv_at hl 2 rfl) ?_
  refine va_get (D := (dC, dI)) (ci := 0) (v := .ref ab) (C := RX0) (T := TX0) (N := 4) hx hb hts (by decide +kernel) hown hK hP 0 rfl rfl 0 (by decide) (hts (.fieldLink RX0 9 "RowFilters" "bytes" "[I") (by decide +kernel)) (fun _ h9 => h9) rfl dX0_set_34 ?_
  refine lv_iload hx hb dX0_set_37 (lv_at hl 1 rfl) ?_
  refine lv_iload_n hx hb dX0_set_39 rfl (lv_at hl 5 rfl) ?_
  refine va_iast hx hb hK hP hD hS 1 0 rfl rfl (vp_in_nI h3 (by omega)) dX0_set_40 (fun H locs hP hD hS => ?_)
  have hP : va_P (dC, dI) rw_cl [(h0, .inr (0, [.ref ab, .int (nI rc), .int (nI rl), .int (nI ps)])), (ab, .inl (cI, 4096, .inl (upd f (nI (y * rl + i)).toNatClampNeg v)))] H := hP
  have hD : va_D A [(h0, .inr (0, [.ref ab, .int (nI rc), .int (nI rl), .int (nI ps)])), (ab, .inl (cI, 4096, .inl (upd f (nI (y * rl + i)).toNatClampNeg v)))] := hD
  rw [nI_clamp (by omega)] at hP hD
  refine lv_iload hx hb dX0_set_41 (lv_at hl 0 rfl) ?_
  exact W.iret (v := f (y * rl + i)) hx hb hr (fun t ht hW => ⟨⟨f (y * rl + i), (), rfl, rfl, by rw [ht]; exact hP, va_K.moved hW.alike hK, hD⟩, hS.F ht⟩) hS.2.2 dX0_set_43
set_option maxHeartbeats 4000000 in
set_option maxRecDepth 100000 in
theorem c_X0_fill (l : Launch) (dC : Nat → ClassId) (dI : Nat → Nat → Nat) (cI : ClassId) (h0 ab rc rl ps : Nat) (f : Nat → Int32) (sz : Nat) (a b z : Int32) (ok : rf_ok rc rl ps) : Met l yX0_fill wsX0_fill ({ frames := 0, cells := 0, slots := 0, locals := 0 }) (va_Pc [.ref h0, .int a, .int b, .int z] (rw_preD dC dI cI h0 ab rc rl ps f sz)) (va_Qv (fun _ : Unit => True) (fun _ t9 => rw_B dC dI cI h0 ab rc rl ps (rf_p f (rf_F a b z) 0 (rc * rl)) (va_A (rw_W h0 ab cI rc rl ps f) sz) t9) (va_A (rw_W h0 ab cI rc rl ps f) sz)) 0 0 (va_A (rw_W h0 ab cI rc rl ps f) sz) := by
  refine Met.ofW (cc := cX0_fill) (maxL := 6) (ret := none) (by decide) rfl ?_
  intro p e s m args below meth c s₁ B hml hv
  obtain ⟨rfl, hsz, hP, hK, hD0⟩ := hv
  have hx := B.exec
  have hb := B.bytes
  have hr := B.returns
  have hts := atoms_spec (ws := wsX0_fill) B.pre
  have hown : s.vm.findClass RX0 = some m.cls := findClass_of_methodNamed B.named
  have hlocks := B.notSynchronized
  subst hsz
  have hD := hD0.self (sz := s.heap.size)
  generalize hAe : va_A (rw_W h0 ab cI rc rl ps f) s.heap.size = A at hD ⊢
  have hA : ∀ q : Nat, s.heap.size ≤ q → A q := fun q h => by rw [← hAe]; exact Or.inr h
  have hS : va_S A s.heap s.heap [] := va_S.rf
  have hP : va_P (dC, dI) rw_cl (rw_W h0 ab cI rc rl ps f) s.heap := hP
  have hl := lv_entry ([.ref h0, .int a, .int b, .int z]) (n := 6) (Nat.le_of_ble_eq_true rfl)
  rw [lg_entry_eq]
  generalize (lg_sl ([.ref h0, .int a, .int b, .int z]) ++ List.replicate (6 - (lg_sl ([.ref h0, .int a, .int b, .int z])).length) Slot.unset).toArray = ls at hl ⊢
  have hl : lv_has ls 6 [(0, .ref h0), (1, .int a), (2, .int b), (3, .int z)] := hl
  have h1 := ok.2.2.1
  refine lv_aload_n hx hb dX0_fill_0 rfl (lv_at hl 0 rfl) ?_
  refine va_get (D := (dC, dI)) (ci := 0) (v := .int (nI rc)) (C := RX0) (T := TX0) (N := 4) hx hb hts (by decide +kernel) hown hK hP 0 rfl rfl 1 (by decide) (hts (.fieldLink RX0 13 "RowFilters" "rowCount" "I") (by decide +kernel)) (fun _ h9 => h9) rfl dX0_fill_1 ?_
  refine lv_aload_n hx hb dX0_fill_4 rfl (lv_at hl 0 rfl) ?_
  refine va_get (D := (dC, dI)) (ci := 0) (v := .int (nI rl)) (C := RX0) (T := TX0) (N := 4) hx hb hts (by decide +kernel) hown hK hP 0 rfl rfl 2 (by decide) (hts (.fieldLink RX0 17 "RowFilters" "rowLength" "I") (by decide +kernel)) (fun _ h9 => h9) rfl dX0_fill_5 ?_
  refine lv_imul hx hb dX0_fill_8 ?_
  refine W.eq (g2 := F0 m 9 ls [.int (nI (rc * rl))]) (congrArg (fun z9 => F0 m 9 ls [.int z9]) (show ((nI rc) * (nI rl)) = nI (rc * rl) from rf_mul rc rl)) ?_
  refine lv_istore hx hb dX0_fill_9 hl (by decide) rfl (fun ls hl => ?_)
  have hl : lv_has ls 6 [(4, .int (nI (rc * rl))), (0, .ref h0), (1, .int a), (2, .int b), (3, .int z)] := hl
  refine lv_iconst (v := 0) hx hb dX0_fill_11 (by decide) ?_
  refine lv_istore hx hb dX0_fill_12 hl (by decide) rfl (fun ls hl => ?_)
  have hl : lv_has ls 6 [(5, .int 0), (4, .int (nI (rc * rl))), (0, .ref h0), (1, .int a), (2, .int b), (3, .int z)] := hl
  have e0 : f = (rf_p f (rf_F a b z) 0 (0)) := (rf_p_nil _ _ _).symm
  rw [e0] at hP hD
  refine rw_loopH (fun k : Nat => rc * rl - k) (fun k ls H locs => (k ≤ rc * rl) ∧ lv_has ls 6 [(0, .ref h0), (1, .int a), (2, .int b), (3, .int z), (4, .int (nI (rc * rl))), (5, .int (nI k))] ∧ va_P (dC, dI) rw_cl [(h0, .inr (0, [.ref ab, .int (nI rc), .int (nI rl), .int (nI ps)])), (ab, .inl (cI, 4096, .inl (rf_p f (rf_F a b z) 0 k)))] H ∧ va_D A [(h0, .inr (0, [.ref ab, .int (nI rc), .int (nI rl), .int (nI ps)])), (ab, .inl (cI, 4096, .inl (rf_p f (rf_F a b z) 0 k)))] ∧ va_S A s.heap H locs) ?_ (0) ⟨Nat.zero_le _, lv_sub hl [2, 3, 4, 5, 1, 0] rfl, hP, hD, hS⟩
  intro k ls H locs hI ih
  obtain ⟨hj, hl, hP, hD, hS⟩ := hI
  refine lv_iload hx hb dX0_fill_14 (lv_at hl 5 rfl) ?_
  refine lv_iload hx hb dX0_fill_16 (lv_at hl 4 rfl) ?_
  refine lv_icmp_ge (tgt := 51) hx hb dX0_fill_18 (by decide) (fun hc => ?_) (fun hc => ?_)
  · have hi : k = rc * rl := by have := (nI_leI (by omega) (by omega)).mp hc; omega
    rw [hi] at hP hD
    exact W.vret hx hb hr (fun t ht hW => ⟨⟨(), rfl, trivial, by rw [ht]; exact hP, va_K.moved hW.alike hK, hD⟩, hS.F ht⟩) hS.2.2 dX0_fill_51
  · have hi : k < rc * rl := Nat.lt_of_not_le (fun q => hc ((nI_leI (by omega) (by omega)).mpr q))
    refine lv_aload_n hx hb dX0_fill_21 rfl (lv_at hl 0 rfl) ?_
    refine va_get (D := (dC, dI)) (ci := 0) (v := .ref ab) (C := RX0) (T := TX0) (N := 4) hx hb hts (by decide +kernel) hown hK hP 0 rfl rfl 0 (by decide) (hts (.fieldLink RX0 9 "RowFilters" "bytes" "[I") (by decide +kernel)) (fun _ h9 => h9) rfl dX0_fill_22 ?_
    refine lv_iload hx hb dX0_fill_25 (lv_at hl 5 rfl) ?_
    refine lv_iload_n hx hb dX0_fill_27 rfl (lv_at hl 1 rfl) ?_
    refine lv_iload hx hb dX0_fill_28 (lv_at hl 5 rfl) ?_
    refine lv_imul hx hb dX0_fill_30 ?_
    refine lv_iload hx hb dX0_fill_31 (lv_at hl 5 rfl) ?_
    refine lv_imul hx hb dX0_fill_33 ?_
    refine lv_iload_n hx hb dX0_fill_34 rfl (lv_at hl 2 rfl) ?_
    refine lv_iload hx hb dX0_fill_35 (lv_at hl 5 rfl) ?_
    refine lv_imul hx hb dX0_fill_37 ?_
    refine lv_iadd hx hb dX0_fill_38 ?_
    refine lv_iload_n hx hb dX0_fill_39 rfl (lv_at hl 3 rfl) ?_
    refine lv_iadd hx hb dX0_fill_40 ?_
    refine lv_bipush (v := 24) hx hb dX0_fill_41 (by decide) ?_
    refine lv_iushr hx hb dX0_fill_43 rfl ?_
    refine lv_topi (fun v ev => ?_)
    refine va_iast hx hb hK hP hD hS 1 0 rfl rfl (vp_in_nI (by omega) (by omega)) dX0_fill_44 (fun H locs hP hD hS => ?_)
    have hP : va_P (dC, dI) rw_cl [(h0, .inr (0, [.ref ab, .int (nI rc), .int (nI rl), .int (nI ps)])), (ab, .inl (cI, 4096, .inl (upd (rf_p f (rf_F a b z) 0 k) (nI k).toNatClampNeg v)))] H := hP
    have hD : va_D A [(h0, .inr (0, [.ref ab, .int (nI rc), .int (nI rl), .int (nI ps)])), (ab, .inl (cI, 4096, .inl (upd (rf_p f (rf_F a b z) 0 k) (nI k).toNatClampNeg v)))] := hD
    refine lv_iinc (k := 5) (v := (nI (k + 1))) hx hb dX0_fill_45 hl rfl (rf_inc k) (by decide) rfl (fun ls hl => ?_)
    have hl : lv_has ls 6 [(5, .int (nI (k + 1))), (0, .ref h0), (1, .int a), (2, .int b), (3, .int z), (4, .int (nI (rc * rl)))] := hl
    refine lv_goto (tgt := 14) hx hb dX0_fill_48 (by decide) ?_
    have e9 : (upd (rf_p f (rf_F a b z) 0 k) (nI k).toNatClampNeg v) = (rf_p f (rf_F a b z) 0 (k + 1)) := by rw [nI_clamp (by omega)]; exact rf_p_up (Nat.zero_le _) (by rw [ev]; rfl)
    rw [e9] at hP hD
    exact ih (k + 1) _ _ _ (by show rc * rl - (k + 1) < rc * rl - k; omega) ⟨by omega, lv_sub hl [1, 2, 3, 4, 5, 0] rfl, hP, hD, hS⟩
end
section
set_option maxHeartbeats 4000000 in
set_option maxRecDepth 100000 in
theorem c_X0_filter (l : Launch) (dC : Nat → ClassId) (dI : Nat → Nat → Nat) (cI : ClassId) (h0 ab rc rl ps : Nat) (f : Nat → Int32) (sz : Nat) (y q : Nat) (ok : rf_ok rc rl ps) (hy : y < rc) (hq : q ≤ 4) : Met l yX0_filter wsX0_filter ({ frames := 4, cells := 0, slots := 0, locals := 88 }) (va_Pc [.ref h0, .int (nI y), .int (nI q)] (rw_preD dC dI cI h0 ab rc rl ps f sz)) (va_Qv (fun _ : Unit => True) (fun _ t9 => rw_B dC dI cI h0 ab rc rl ps (rf_p f (rf_tv f rl ps y q) (y * rl) (y * rl + rl)) (va_A (rw_W h0 ab cI rc rl ps f) sz) t9) (va_A (rw_W h0 ab cI rc rl ps f) sz)) 0 0 (va_A (rw_W h0 ab cI rc rl ps f) sz) := by
  refine Met.ofW (cc := cX0_filter) (maxL := 3) (ret := none) (by decide) rfl ?_
  intro p e s m args below meth c s₁ B hml hv
  obtain ⟨rfl, hsz, hP, hK, hD0⟩ := hv
  have hx := B.exec
  have hb := B.bytes
  have hr := B.returns
  have hts := atoms_spec (ws := wsX0_filter) B.pre
  have hown : s.vm.findClass RX0 = some m.cls := findClass_of_methodNamed B.named
  have hlocks := B.notSynchronized
  subst hsz
  have hD := hD0.self (sz := s.heap.size)
  generalize hAe : va_A (rw_W h0 ab cI rc rl ps f) s.heap.size = A at hD ⊢
  have hA : ∀ q : Nat, s.heap.size ≤ q → A q := fun q h => by rw [← hAe]; exact Or.inr h
  have hS : va_S A s.heap s.heap [] := va_S.rf
  have hP : va_P (dC, dI) rw_cl (rw_W h0 ab cI rc rl ps f) s.heap := hP
  have hl := lv_entry ([.ref h0, .int (nI y), .int (nI q)]) (n := 3) (Nat.le_of_ble_eq_true rfl)
  rw [lg_entry_eq]
  generalize (lg_sl ([.ref h0, .int (nI y), .int (nI q)]) ++ List.replicate (3 - (lg_sl ([.ref h0, .int (nI y), .int (nI q)])).length) Slot.unset).toArray = ls at hl ⊢
  have hl : lv_has ls 3 [(0, .ref h0), (1, .int (nI y)), (2, .int (nI q))] := hl
  have h1 := ok.rc
  refine lv_aload_n hx hb dX0_filter_0 rfl (lv_at hl 0 rfl) ?_
  refine lv_iload_n hx hb dX0_filter_1 rfl (lv_at hl 1 rfl) ?_
  refine va_csv (W.runV (C := RX0) (As := [.int (nI y)]) (rest := []) ⟨hx, hb, hml, hown, hts⟩ (c_X0_requireRow l dC dI cI h0 ab rc rl ps f (nI y) (nI_pos (by omega)) (rf_hi hy h1)) (cwV 1 hts gX0_filter_X0_requireRow rfl rfl rfl (by decide +kernel) ⟨Nat.le_of_ble_eq_true rfl, Nat.le_of_ble_eq_true rfl⟩) ⟨fun a U g mk q => by obtain ⟨q0, qP, qK⟩ := q; exact ⟨q0, qP, va_K.moved (u := U) (U := U.calling g mk a) (Vm.Alike.refl U.vm) qK⟩, va_recv hK hP (ci := 0) (q0 := 0) rfl rfl, fun U hU hW => ⟨rfl, by rw [hU]; exact hP, va_K.moved hW.alike hK⟩⟩ rfl rfl hl.1 rfl (lv_room (Nat.le_of_ble_eq_true rfl)) dX0_filter_2 ⟨Nat.zero_le _, Nat.zero_le _⟩) (fun _ => ?_)
  refine lv_iload_n hx hb dX0_filter_5 rfl (lv_at hl 2 rfl) ?_
  refine va_csv (W.runS (As := [.int (nI q)]) (rest := []) ⟨hx, hb, hml, hown, hts⟩ (c_X0_requireFilter l (nI q) (nI_pos (by omega)) (nI_nlt (a := 4) hq (by omega))) (va_cwS 1 hts gX0_filter_X0_requireFilter rfl rfl rfl (by decide +kernel) ⟨Nat.le_of_ble_eq_true rfl, Nat.le_of_ble_eq_true rfl⟩) ⟨fun _ _ _ _ q => q, fun U hU hW => ⟨rfl, trivial⟩⟩ rfl rfl hl.1 rfl (lv_room (Nat.le_of_ble_eq_true rfl)) dX0_filter_6 ⟨Nat.zero_le _, Nat.zero_le _⟩) (fun _ => ?_)
  refine lv_aload_n hx hb dX0_filter_9 rfl (lv_at hl 0 rfl) ?_
  refine lv_iload_n hx hb dX0_filter_10 rfl (lv_at hl 1 rfl) ?_
  refine lv_iload_n hx hb dX0_filter_11 rfl (lv_at hl 2 rfl) ?_
  have hFc := va_free (wc := [(h0, .inr (0, [.ref ab, .int (nI rc), .int (nI rl), .int (nI ps)])), (ab, .inl (cI, 4096, .inl f))]) hD hS hA [0, 1] rfl
  refine va_callv (va_runV (C := RX0) (As := [.int (nI y), .int (nI q)]) (rest := []) ⟨hx, hb, hml, hown, hts⟩ (c_X0_tellRow l dC dI cI h0 ab rc rl ps f s.heap.size y q ok hy hq) (cwV 2 hts gX0_filter_X0_tellRow rfl rfl rfl (by decide +kernel) ⟨Nat.le_of_ble_eq_true rfl, Nat.le_of_ble_eq_true rfl⟩) ⟨fun a U g mk q => by obtain ⟨q0, q1, qP, qK, qD⟩ := q; exact ⟨q0, q1, qP, va_K.moved (u := U) (U := U.calling g mk a) (Vm.Alike.refl U.vm) qK, qD⟩, va_recv hK hP (ci := 0) (q0 := 0) rfl rfl, fun U hU hW => ⟨rfl, by rw [hU], by rw [hU]; exact hP, va_K.moved hW.alike hK, hD.weaken (fun _ _ _ _ => trivial)⟩⟩ rfl rfl hl.1 rfl (lv_room (Nat.le_of_ble_eq_true rfl)) dX0_filter_12 ⟨Nat.zero_le _, Nat.zero_le _⟩) hS (fun q _ h => hFc q h) hFc (fun u t9 H1 locs ht hvm hw hB hz1 hk1 hS => ?_)
  obtain ⟨hP1, hK1, hD1⟩ := hB
  rw [ht] at hP1
  obtain ⟨hP, hD⟩ := va_join (wr := []) (w1 := [(h0, .inr (0, [.ref ab, .int (nI rc), .int (nI rl), .int (nI ps)])), (ab, .inl (cI, 4096, .inl (rf_p f (rf_tv f rl ps y q) (y * rl) (y * rl + rl))))]) hP hD [0, 1] [] rfl rfl (by decide) (by decide) hk1 hFc hP1 hD1
  generalize H1 = H at hP hS ⊢
  have hP : va_P (dC, dI) rw_cl [(h0, .inr (0, [.ref ab, .int (nI rc), .int (nI rl), .int (nI ps)])), (ab, .inl (cI, 4096, .inl (rf_p f (rf_tv f rl ps y q) (y * rl) (y * rl + rl))))] H := hP
  have hD : va_D A [(h0, .inr (0, [.ref ab, .int (nI rc), .int (nI rl), .int (nI ps)])), (ab, .inl (cI, 4096, .inl (rf_p f (rf_tv f rl ps y q) (y * rl) (y * rl + rl))))] := hD
  refine W.widen (k := 0) (n := 0) (Nat.le_refl _) (Nat.le_refl _) ?_
  exact W.vret hx hb hr (fun t ht hW => ⟨⟨(), rfl, trivial, by rw [ht]; exact hP, va_K.moved hW.alike hK, hD⟩, hS.F ht⟩) hS.2.2 dX0_filter_15
set_option maxHeartbeats 4000000 in
set_option maxRecDepth 100000 in
theorem c_X0_plain (l : Launch) (dC : Nat → ClassId) (dI : Nat → Nat → Nat) (cI : ClassId) (h0 ab rc rl ps : Nat) (f : Nat → Int32) (sz : Nat) (y q : Nat) (ok : rf_ok rc rl ps) (hy : y < rc) (hq : q ≤ 4) : Met l yX0_plain wsX0_plain ({ frames := 4, cells := 0, slots := 0, locals := 88 }) (va_Pc [.ref h0, .int (nI y), .int (nI q)] (rw_preD dC dI cI h0 ab rc rl ps f sz)) (va_Qv (fun _ : Unit => True) (fun _ t9 => rw_B dC dI cI h0 ab rc rl ps (rf_U f rl ps y q rl) (va_A (rw_W h0 ab cI rc rl ps f) sz) t9) (va_A (rw_W h0 ab cI rc rl ps f) sz)) 0 0 (va_A (rw_W h0 ab cI rc rl ps f) sz) := by
  refine Met.ofW (cc := cX0_plain) (maxL := 3) (ret := none) (by decide) rfl ?_
  intro p e s m args below meth c s₁ B hml hv
  obtain ⟨rfl, hsz, hP, hK, hD0⟩ := hv
  have hx := B.exec
  have hb := B.bytes
  have hr := B.returns
  have hts := atoms_spec (ws := wsX0_plain) B.pre
  have hown : s.vm.findClass RX0 = some m.cls := findClass_of_methodNamed B.named
  have hlocks := B.notSynchronized
  subst hsz
  have hD := hD0.self (sz := s.heap.size)
  generalize hAe : va_A (rw_W h0 ab cI rc rl ps f) s.heap.size = A at hD ⊢
  have hA : ∀ q : Nat, s.heap.size ≤ q → A q := fun q h => by rw [← hAe]; exact Or.inr h
  have hS : va_S A s.heap s.heap [] := va_S.rf
  have hP : va_P (dC, dI) rw_cl (rw_W h0 ab cI rc rl ps f) s.heap := hP
  have hl := lv_entry ([.ref h0, .int (nI y), .int (nI q)]) (n := 3) (Nat.le_of_ble_eq_true rfl)
  rw [lg_entry_eq]
  generalize (lg_sl ([.ref h0, .int (nI y), .int (nI q)]) ++ List.replicate (3 - (lg_sl ([.ref h0, .int (nI y), .int (nI q)])).length) Slot.unset).toArray = ls at hl ⊢
  have hl : lv_has ls 3 [(0, .ref h0), (1, .int (nI y)), (2, .int (nI q))] := hl
  have h1 := ok.rc
  refine lv_aload_n hx hb dX0_plain_0 rfl (lv_at hl 0 rfl) ?_
  refine lv_iload_n hx hb dX0_plain_1 rfl (lv_at hl 1 rfl) ?_
  refine va_csv (W.runV (C := RX0) (As := [.int (nI y)]) (rest := []) ⟨hx, hb, hml, hown, hts⟩ (c_X0_requireRow l dC dI cI h0 ab rc rl ps f (nI y) (nI_pos (by omega)) (rf_hi hy h1)) (cwV 1 hts gX0_plain_X0_requireRow rfl rfl rfl (by decide +kernel) ⟨Nat.le_of_ble_eq_true rfl, Nat.le_of_ble_eq_true rfl⟩) ⟨fun a U g mk q => by obtain ⟨q0, qP, qK⟩ := q; exact ⟨q0, qP, va_K.moved (u := U) (U := U.calling g mk a) (Vm.Alike.refl U.vm) qK⟩, va_recv hK hP (ci := 0) (q0 := 0) rfl rfl, fun U hU hW => ⟨rfl, by rw [hU]; exact hP, va_K.moved hW.alike hK⟩⟩ rfl rfl hl.1 rfl (lv_room (Nat.le_of_ble_eq_true rfl)) dX0_plain_2 ⟨Nat.zero_le _, Nat.zero_le _⟩) (fun _ => ?_)
  refine lv_iload_n hx hb dX0_plain_5 rfl (lv_at hl 2 rfl) ?_
  refine va_csv (W.runS (As := [.int (nI q)]) (rest := []) ⟨hx, hb, hml, hown, hts⟩ (c_X0_requireFilter l (nI q) (nI_pos (by omega)) (nI_nlt (a := 4) hq (by omega))) (va_cwS 1 hts gX0_plain_X0_requireFilter rfl rfl rfl (by decide +kernel) ⟨Nat.le_of_ble_eq_true rfl, Nat.le_of_ble_eq_true rfl⟩) ⟨fun _ _ _ _ q => q, fun U hU hW => ⟨rfl, trivial⟩⟩ rfl rfl hl.1 rfl (lv_room (Nat.le_of_ble_eq_true rfl)) dX0_plain_6 ⟨Nat.zero_le _, Nat.zero_le _⟩) (fun _ => ?_)
  refine lv_aload_n hx hb dX0_plain_9 rfl (lv_at hl 0 rfl) ?_
  refine lv_iload_n hx hb dX0_plain_10 rfl (lv_at hl 1 rfl) ?_
  refine lv_iload_n hx hb dX0_plain_11 rfl (lv_at hl 2 rfl) ?_
  have hFc := va_free (wc := [(h0, .inr (0, [.ref ab, .int (nI rc), .int (nI rl), .int (nI ps)])), (ab, .inl (cI, 4096, .inl f))]) hD hS hA [0, 1] rfl
  refine va_callv (va_runV (C := RX0) (As := [.int (nI y), .int (nI q)]) (rest := []) ⟨hx, hb, hml, hown, hts⟩ (c_X0_restoreRow l dC dI cI h0 ab rc rl ps f s.heap.size y q ok hy hq) (cwV 2 hts gX0_plain_X0_restoreRow rfl rfl rfl (by decide +kernel) ⟨Nat.le_of_ble_eq_true rfl, Nat.le_of_ble_eq_true rfl⟩) ⟨fun a U g mk q => by obtain ⟨q0, q1, qP, qK, qD⟩ := q; exact ⟨q0, q1, qP, va_K.moved (u := U) (U := U.calling g mk a) (Vm.Alike.refl U.vm) qK, qD⟩, va_recv hK hP (ci := 0) (q0 := 0) rfl rfl, fun U hU hW => ⟨rfl, by rw [hU], by rw [hU]; exact hP, va_K.moved hW.alike hK, hD.weaken (fun _ _ _ _ => trivial)⟩⟩ rfl rfl hl.1 rfl (lv_room (Nat.le_of_ble_eq_true rfl)) dX0_plain_12 ⟨Nat.zero_le _, Nat.zero_le _⟩) hS (fun q _ h => hFc q h) hFc (fun u t9 H1 locs ht hvm hw hB hz1 hk1 hS => ?_)
  obtain ⟨hP1, hK1, hD1⟩ := hB
  rw [ht] at hP1
  obtain ⟨hP, hD⟩ := va_join (wr := []) (w1 := [(h0, .inr (0, [.ref ab, .int (nI rc), .int (nI rl), .int (nI ps)])), (ab, .inl (cI, 4096, .inl (rf_U f rl ps y q rl)))]) hP hD [0, 1] [] rfl rfl (by decide) (by decide) hk1 hFc hP1 hD1
  generalize H1 = H at hP hS ⊢
  have hP : va_P (dC, dI) rw_cl [(h0, .inr (0, [.ref ab, .int (nI rc), .int (nI rl), .int (nI ps)])), (ab, .inl (cI, 4096, .inl (rf_U f rl ps y q rl)))] H := hP
  have hD : va_D A [(h0, .inr (0, [.ref ab, .int (nI rc), .int (nI rl), .int (nI ps)])), (ab, .inl (cI, 4096, .inl (rf_U f rl ps y q rl)))] := hD
  refine W.widen (k := 0) (n := 0) (Nat.le_refl _) (Nat.le_refl _) ?_
  exact W.vret hx hb hr (fun t ht hW => ⟨⟨(), rfl, trivial, by rw [ht]; exact hP, va_K.moved hW.alike hK, hD⟩, hS.F ht⟩) hS.2.2 dX0_plain_15
set_option maxHeartbeats 4000000 in
set_option maxRecDepth 100000 in
theorem c_X0_best (l : Launch) (dC : Nat → ClassId) (dI : Nat → Nat → Nat) (cI : ClassId) (h0 ab rc rl ps : Nat) (f : Nat → Int32) (sz : Nat) (ok : rf_ok rc rl ps) : Met l yX0_best wsX0_best ({ frames := 5, cells := 0, slots := 0, locals := 114 }) (va_Pc [.ref h0] (rw_preD dC dI cI h0 ab rc rl ps f sz)) (va_Qi (fun (r : Int32) (_ : Unit) => r = rf_v (fun y => rf_q f rl ps y) rc) (fun _ t9 => rw_B dC dI cI h0 ab rc rl ps (rf_p f (rf_bv f rl ps) 0 (rc * rl)) (va_A (rw_W h0 ab cI rc rl ps f) sz) t9) (va_A (rw_W h0 ab cI rc rl ps f) sz)) 0 0 (va_A (rw_W h0 ab cI rc rl ps f) sz) := by
  refine Met.ofW (cc := cX0_best) (maxL := 5) (ret := (some .int)) (by decide) rfl ?_
  intro p e s m args below meth c s₁ B hml hv
  obtain ⟨rfl, hsz, hP, hK, hD0⟩ := hv
  have hx := B.exec
  have hb := B.bytes
  have hr := B.returns
  have hts := atoms_spec (ws := wsX0_best) B.pre
  have hown : s.vm.findClass RX0 = some m.cls := findClass_of_methodNamed B.named
  have hlocks := B.notSynchronized
  subst hsz
  have hD := hD0.self (sz := s.heap.size)
  generalize hAe : va_A (rw_W h0 ab cI rc rl ps f) s.heap.size = A at hD ⊢
  have hA : ∀ q : Nat, s.heap.size ≤ q → A q := fun q h => by rw [← hAe]; exact Or.inr h
  have hS : va_S A s.heap s.heap [] := va_S.rf
  have hP : va_P (dC, dI) rw_cl (rw_W h0 ab cI rc rl ps f) s.heap := hP
  have hl := lv_entry ([.ref h0]) (n := 5) (Nat.le_of_ble_eq_true rfl)
  rw [lg_entry_eq]
  generalize (lg_sl ([.ref h0]) ++ List.replicate (5 - (lg_sl ([.ref h0])).length) Slot.unset).toArray = ls at hl ⊢
  have hl : lv_has ls 5 [(0, .ref h0)] := hl
  have h1 := ok.rc
  have h2 := ok.rl
  have h4 := ok.2.2.2.1
  refine lv_iconst (v := 0) hx hb dX0_best_0 (by decide) ?_
  refine lv_istore_n hx hb dX0_best_1 rfl hl (by decide) rfl (fun ls hl => ?_)
  have hl : lv_has ls 5 [(1, .int 0), (0, .ref h0)] := hl
  refine lv_iconst (v := 1) hx hb dX0_best_2 (by decide) ?_
  refine lv_istore_n hx hb dX0_best_3 rfl hl (by decide) rfl (fun ls hl => ?_)
  have hl : lv_has ls 5 [(2, .int 1), (1, .int 0), (0, .ref h0)] := hl
  refine lv_aload_n hx hb dX0_best_4 rfl (lv_at hl 2 rfl) ?_
  refine va_get (D := (dC, dI)) (ci := 0) (v := .int (nI rc)) (C := RX0) (T := TX0) (N := 4) hx hb hts (by decide +kernel) hown hK hP 0 rfl rfl 1 (by decide) (hts (.fieldLink RX0 13 "RowFilters" "rowCount" "I") (by decide +kernel)) (fun _ h9 => h9) rfl dX0_best_5 ?_
  refine lv_iconst (v := 1) hx hb dX0_best_8 (by decide) ?_
  refine lv_isub hx hb dX0_best_9 ?_
  refine lv_istore_n hx hb dX0_best_10 rfl hl (by decide) rfl (fun ls hl => ?_)
  have hl : lv_has ls 5 [(3, .int ((nI rc) - 1)), (2, .int 1), (1, .int 0), (0, .ref h0)] := hl
  have e0 : f = (rf_p f (rf_bv f rl ps) (rc * rl) (rc * rl)) := (rf_p_nil _ _ _).symm
  rw [e0] at hP hD
  refine rw_loopH (fun j : Nat => j) (fun j ls H locs => (j ≤ rc) ∧ (∃ an we : Int32, rf_v (fun y => rf_q f rl ps y) rc = an + we * rf_v (fun y => rf_q f rl ps y) j ∧ lv_has ls 5 [(0, .ref h0), (1, .int an), (2, .int we), (3, .int (nI j - 1))]) ∧ va_P (dC, dI) rw_cl [(h0, .inr (0, [.ref ab, .int (nI rc), .int (nI rl), .int (nI ps)])), (ab, .inl (cI, 4096, .inl (rf_p f (rf_bv f rl ps) (j * rl) (rc * rl))))] H ∧ va_D A [(h0, .inr (0, [.ref ab, .int (nI rc), .int (nI rl), .int (nI ps)])), (ab, .inl (cI, 4096, .inl (rf_p f (rf_bv f rl ps) (j * rl) (rc * rl))))] ∧ va_S A s.heap H locs) ?_ rc ⟨Nat.le_refl _, ⟨0, 1, by rw [Int32.one_mul, Int32.zero_add], lv_sub hl [3, 2, 1, 0] rfl⟩, hP, hD, hS⟩
  intro j ls H locs hI ih
  obtain ⟨hj, ⟨an, we, hv, hl⟩, hP, hD, hS⟩ := hI
  refine lv_iload_n hx hb dX0_best_11 rfl (lv_at hl 3 rfl) ?_
  refine lv_if_lt (tgt := 46) hx hb dX0_best_12 (by decide) (fun hc => ?_) (fun hc => ?_)
  · obtain rfl : j = 0 := rf_dn0 (by omega) hc
    rw [Nat.zero_mul] at hP hD
    refine lv_iload_n hx hb dX0_best_46 rfl (lv_at hl 1 rfl) ?_
    refine lv_iload_n hx hb dX0_best_47 rfl (lv_at hl 2 rfl) ?_
    refine lv_iadd hx hb dX0_best_48 ?_
    exact W.iret (v := (an + we)) hx hb hr (fun t ht hW => ⟨⟨(an + we), (), rfl, by rw [hv]; show an + we = an + we * 1; rw [Int32.mul_one], by rw [ht]; exact hP, va_K.moved hW.alike hK, hD⟩, hS.F ht⟩) hS.2.2 dX0_best_49
  · obtain ⟨z, rfl⟩ := rf_dn1 hc
    rw [nI_pred] at hl
    have hl : lv_has ls 5 [(0, .ref h0), (1, .int an), (2, .int we), (3, .int (nI z))] := hl
    have hz : z < rc := by omega
    have hq : rf_q (rf_p f (rf_bv f rl ps) ((z + 1) * rl) (rc * rl)) rl ps z = rf_q f rl ps z := rf_q_c h4 (fun k hk => rf_p_out (Or.inl (by rw [Nat.add_mul, Nat.one_mul]; exact hk)))
    refine lv_aload_n hx hb dX0_best_15 rfl (lv_at hl 0 rfl) ?_
    refine lv_iload_n hx hb dX0_best_16 rfl (lv_at hl 3 rfl) ?_
    refine vp_callSi (W.runV (C := RX0) (As := [.int (nI z)]) (rest := []) ⟨hx, hb, hml, hown, hts⟩ (c_X0_leastFilter l dC dI cI h0 ab rc rl ps (rf_p f (rf_bv f rl ps) ((z + 1) * rl) (rc * rl)) z ok hz) (cwV 1 hts gX0_best_X0_leastFilter rfl rfl rfl (by decide +kernel) ⟨Nat.le_of_ble_eq_true rfl, Nat.le_of_ble_eq_true rfl⟩) ⟨fun a U g mk q => by obtain ⟨q0, qP, qK⟩ := q; exact ⟨q0, qP, va_K.moved (u := U) (U := U.calling g mk a) (Vm.Alike.refl U.vm) qK⟩, va_recv hK hP (ci := 0) (q0 := 0) rfl rfl, fun U hU hW => ⟨rfl, by rw [hU]; exact hP, va_K.moved hW.alike hK⟩⟩ rfl rfl hl.1 rfl (lv_room (Nat.le_of_ble_eq_true rfl)) dX0_best_17 ⟨Nat.zero_le _, Nat.zero_le _⟩) (fun rq eq => ?_)
    rw [hq] at eq
    subst eq
    refine lv_istore hx hb dX0_best_20 hl (by decide) rfl (fun ls hl => ?_)
    have hl : lv_has ls 5 [(4, .int (nI (rf_q f rl ps z))), (0, .ref h0), (1, .int an), (2, .int we), (3, .int (nI z))] := hl
    refine lv_aload_n hx hb dX0_best_22 rfl (lv_at hl 1 rfl) ?_
    refine lv_iload_n hx hb dX0_best_23 rfl (lv_at hl 4 rfl) ?_
    refine lv_iload hx hb dX0_best_24 (lv_at hl 0 rfl) ?_
    have hFc := va_free (wc := [(h0, .inr (0, [.ref ab, .int (nI rc), .int (nI rl), .int (nI ps)])), (ab, .inl (cI, 4096, .inl (rf_p f (rf_bv f rl ps) ((z + 1) * rl) (rc * rl))))]) hD hS hA [0, 1] rfl
    refine va_callv (va_runV (C := RX0) (As := [.int (nI z), .int (nI (rf_q f rl ps z))]) (rest := []) ⟨hx, hb, hml, hown, hts⟩ (c_X0_tellRow l dC dI cI h0 ab rc rl ps (rf_p f (rf_bv f rl ps) ((z + 1) * rl) (rc * rl)) H.size z (rf_q f rl ps z) ok hz (rf_q_le _ _ _ _)) (cwV 2 hts gX0_best_X0_tellRow rfl rfl rfl (by decide +kernel) ⟨Nat.le_of_ble_eq_true rfl, Nat.le_of_ble_eq_true rfl⟩) ⟨fun a U g mk q => by obtain ⟨q0, q1, qP, qK, qD⟩ := q; exact ⟨q0, q1, qP, va_K.moved (u := U) (U := U.calling g mk a) (Vm.Alike.refl U.vm) qK, qD⟩, va_recv hK hP (ci := 0) (q0 := 0) rfl rfl, fun U hU hW => ⟨rfl, by rw [hU], by rw [hU]; exact hP, va_K.moved hW.alike hK, hD.weaken (fun _ _ _ _ => trivial)⟩⟩ rfl rfl hl.1 rfl (lv_room (Nat.le_of_ble_eq_true rfl)) dX0_best_26 ⟨Nat.zero_le _, Nat.zero_le _⟩) hS (fun q _ h => hFc q h) hFc (fun u t9 H1 locs ht hvm hw hB hz1 hk1 hS => ?_)
    obtain ⟨hP1, hK1, hD1⟩ := hB
    rw [ht] at hP1
    obtain ⟨hP, hD⟩ := va_join (wr := []) (w1 := [(h0, .inr (0, [.ref ab, .int (nI rc), .int (nI rl), .int (nI ps)])), (ab, .inl (cI, 4096, .inl (rf_p (rf_p f (rf_bv f rl ps) ((z + 1) * rl) (rc * rl)) (rf_tv (rf_p f (rf_bv f rl ps) ((z + 1) * rl) (rc * rl)) rl ps z (rf_q f rl ps z)) (z * rl) (z * rl + rl))))]) hP hD [0, 1] [] rfl rfl (by decide) (by decide) hk1 hFc hP1 hD1
    generalize H1 = H at hP hS ⊢
    have hP : va_P (dC, dI) rw_cl [(h0, .inr (0, [.ref ab, .int (nI rc), .int (nI rl), .int (nI ps)])), (ab, .inl (cI, 4096, .inl (rf_p (rf_p f (rf_bv f rl ps) ((z + 1) * rl) (rc * rl)) (rf_tv (rf_p f (rf_bv f rl ps) ((z + 1) * rl) (rc * rl)) rl ps z (rf_q f rl ps z)) (z * rl) (z * rl + rl))))] H := hP
    have hD : va_D A [(h0, .inr (0, [.ref ab, .int (nI rc), .int (nI rl), .int (nI ps)])), (ab, .inl (cI, 4096, .inl (rf_p (rf_p f (rf_bv f rl ps) ((z + 1) * rl) (rc * rl)) (rf_tv (rf_p f (rf_bv f rl ps) ((z + 1) * rl) (rc * rl)) rl ps z (rf_q f rl ps z)) (z * rl) (z * rl + rl))))] := hD
    refine W.widen (k := 0) (n := 0) (Nat.le_refl _) (Nat.le_refl _) ?_
    have e9 : (rf_p (rf_p f (rf_bv f rl ps) ((z + 1) * rl) (rc * rl)) (rf_tv (rf_p f (rf_bv f rl ps) ((z + 1) * rl) (rc * rl)) rl ps z (rf_q f rl ps z)) (z * rl) (z * rl + rl)) = (rf_p f (rf_bv f rl ps) (z * rl) (rc * rl)) := by rw [← hq]; exact rf_best_dn h4 hz rfl
    rw [e9] at hP hD
    refine lv_iload_n hx hb dX0_best_29 rfl (lv_at hl 2 rfl) ?_
    refine lv_iload hx hb dX0_best_30 (lv_at hl 0 rfl) ?_
    refine lv_iload_n hx hb dX0_best_32 rfl (lv_at hl 3 rfl) ?_
    refine lv_imul hx hb dX0_best_33 ?_
    refine lv_iadd hx hb dX0_best_34 ?_
    refine lv_istore_n hx hb dX0_best_35 rfl hl (by decide) rfl (fun ls hl => ?_)
    have hl : lv_has ls 5 [(1, .int (an + ((nI (rf_q f rl ps z)) * we))), (4, .int (nI (rf_q f rl ps z))), (0, .ref h0), (2, .int we), (3, .int (nI z))] := hl
    refine lv_iload_n hx hb dX0_best_36 rfl (lv_at hl 3 rfl) ?_
    refine lv_iconst (v := 5) hx hb dX0_best_37 (by decide) ?_
    refine lv_imul hx hb dX0_best_38 ?_
    refine lv_istore_n hx hb dX0_best_39 rfl hl (by decide) rfl (fun ls hl => ?_)
    have hl : lv_has ls 5 [(2, .int (we * 5)), (1, .int (an + ((nI (rf_q f rl ps z)) * we))), (4, .int (nI (rf_q f rl ps z))), (0, .ref h0), (3, .int (nI z))] := hl
    refine lv_iinc (k := 4) (v := (nI z - 1)) hx hb dX0_best_40 hl rfl (rf_dec z) (by decide) rfl (fun ls hl => ?_)
    have hl : lv_has ls 5 [(3, .int (nI z - 1)), (2, .int (we * 5)), (1, .int (an + ((nI (rf_q f rl ps z)) * we))), (4, .int (nI (rf_q f rl ps z))), (0, .ref h0)] := hl
    refine lv_goto (tgt := 11) hx hb dX0_best_43 (by decide) ?_
    exact ih z _ _ _ (Nat.lt_succ_self z) ⟨by omega, ⟨an + nI (rf_q f rl ps z) * we, we * 5, by rw [hv]; exact rf_v_step _ _ _ _, lv_sub hl [4, 2, 1, 0] rfl⟩, hP, hD, hS⟩
set_option maxHeartbeats 4000000 in
set_option maxRecDepth 100000 in
theorem c_X0_undo (l : Launch) (dC : Nat → ClassId) (dI : Nat → Nat → Nat) (cI : ClassId) (h0 ab rc rl ps : Nat) (f : Nat → Int32) (sz : Nat) (n : Nat) (ok : rf_ok rc rl ps) (hn : n ≤ 390624) : Met l yX0_undo wsX0_undo ({ frames := 4, cells := 0, slots := 0, locals := 88 }) (va_Pc [.ref h0, .int (nI n)] (rw_preD dC dI cI h0 ab rc rl ps f sz)) (va_Qv (fun _ : Unit => True) (fun _ t9 => rw_B dC dI cI h0 ab rc rl ps (rf_D f rl ps n (min rc 8)) (va_A (rw_W h0 ab cI rc rl ps f) sz) t9) (va_A (rw_W h0 ab cI rc rl ps f) sz)) 0 0 (va_A (rw_W h0 ab cI rc rl ps f) sz) := by
  refine Met.ofW (cc := cX0_undo) (maxL := 5) (ret := none) (by decide) rfl ?_
  intro p e s m args below meth c s₁ B hml hv
  obtain ⟨rfl, hsz, hP, hK, hD0⟩ := hv
  have hx := B.exec
  have hb := B.bytes
  have hr := B.returns
  have hts := atoms_spec (ws := wsX0_undo) B.pre
  have hown : s.vm.findClass RX0 = some m.cls := findClass_of_methodNamed B.named
  have hlocks := B.notSynchronized
  subst hsz
  have hD := hD0.self (sz := s.heap.size)
  generalize hAe : va_A (rw_W h0 ab cI rc rl ps f) s.heap.size = A at hD ⊢
  have hA : ∀ q : Nat, s.heap.size ≤ q → A q := fun q h => by rw [← hAe]; exact Or.inr h
  have hS : va_S A s.heap s.heap [] := va_S.rf
  have hP : va_P (dC, dI) rw_cl (rw_W h0 ab cI rc rl ps f) s.heap := hP
  have hl := lv_entry ([.ref h0, .int (nI n)]) (n := 5) (Nat.le_of_ble_eq_true rfl)
  rw [lg_entry_eq]
  generalize (lg_sl ([.ref h0, .int (nI n)]) ++ List.replicate (5 - (lg_sl ([.ref h0, .int (nI n)])).length) Slot.unset).toArray = ls at hl ⊢
  have hl : lv_has ls 5 [(0, .ref h0), (1, .int (nI n))] := hl
  have h1 := ok.rc
  refine lv_iload_n hx hb dX0_undo_0 rfl (lv_at hl 1 rfl) ?_
  refine lv_iconst (v := 0) hx hb dX0_undo_1 (by decide) ?_
  refine lv_ldc hx hb hown (hts (.constant RX0 54 (390624)) (by decide +kernel)) dX0_undo_2 ?_
  refine va_csv (W.runS (As := [.int (nI n), .int 0, .int 390624]) (rest := []) ⟨hx, hb, hml, hown, hts⟩ (c_X0_requireWithin l (nI n) 0 390624 (nI_pos (by omega)) (nI_nlt (a := 390624) hn (by omega))) (va_cwS 3 hts gX0_undo_X0_requireWithin rfl rfl rfl (by decide +kernel) ⟨Nat.le_of_ble_eq_true rfl, Nat.le_of_ble_eq_true rfl⟩) ⟨fun _ _ _ _ q => q, fun U hU hW => ⟨rfl, trivial⟩⟩ rfl rfl hl.1 rfl (lv_room (Nat.le_of_ble_eq_true rfl)) dX0_undo_4 ⟨Nat.zero_le _, Nat.zero_le _⟩) (fun _ => ?_)
  refine lv_aload_n hx hb dX0_undo_7 rfl (lv_at hl 0 rfl) ?_
  refine va_get (D := (dC, dI)) (ci := 0) (v := .int (nI rc)) (C := RX0) (T := TX0) (N := 4) hx hb hts (by decide +kernel) hown hK hP 0 rfl rfl 1 (by decide) (hts (.fieldLink RX0 13 "RowFilters" "rowCount" "I") (by decide +kernel)) (fun _ h9 => h9) rfl dX0_undo_8 ?_
  refine lv_bipush (v := 8) hx hb dX0_undo_11 (by decide) ?_
  refine va_mmin hx hb (hml.trans hl.1.symm) hown (hts (.methodLink RX0 55 Lib.Math.min.name) (by decide +kernel)) (hts (.static Lib.Math.min.name) (by decide +kernel)) (hts (.initialized "java/lang/Math") (by decide +kernel)) (hts (.code Lib.Math.min.name Lib.Math.min.code 2 (some .int)) (by decide +kernel)) (Nat.le_of_ble_eq_true rfl) (Nat.le_of_ble_eq_true rfl) (Nat.le_of_ble_eq_true rfl) (Nat.le_of_ble_eq_true rfl) dX0_undo_13 ?_
  refine W.eq (g2 := F0 m 16 ls [.int (nI (min rc 8))]) (congrArg (fun z9 => F0 m 16 ls [.int z9]) (show (if 8 < (nI rc) then 8 else (nI rc)) = nI (min rc 8) from rf_min h1)) ?_
  refine lv_istore_n hx hb dX0_undo_16 rfl hl (by decide) rfl (fun ls hl => ?_)
  have hl : lv_has ls 5 [(2, .int (nI (min rc 8))), (0, .ref h0), (1, .int (nI n))] := hl
  refine lv_iload_n hx hb dX0_undo_17 rfl (lv_at hl 2 rfl) ?_
  refine lv_istore_n hx hb dX0_undo_18 rfl hl (by decide) rfl (fun ls hl => ?_)
  have hl : lv_has ls 5 [(3, .int (nI n)), (2, .int (nI (min rc 8))), (0, .ref h0), (1, .int (nI n))] := hl
  refine lv_iconst (v := 0) hx hb dX0_undo_19 (by decide) ?_
  refine lv_istore hx hb dX0_undo_20 hl (by decide) rfl (fun ls hl => ?_)
  have hl : lv_has ls 5 [(4, .int 0), (3, .int (nI n)), (2, .int (nI (min rc 8))), (0, .ref h0), (1, .int (nI n))] := hl
  have e0 : f = (rf_D f rl ps n (0)) := rfl
  rw [e0] at hP hD
  refine rw_loopH (fun y : Nat => min rc 8 - y) (fun y ls H locs => (y ≤ min rc 8) ∧ lv_has ls 5 [(0, .ref h0), (1, .int (nI n)), (2, .int (nI (min rc 8))), (3, .int (nI (n / 5 ^ y))), (4, .int (nI y))] ∧ va_P (dC, dI) rw_cl [(h0, .inr (0, [.ref ab, .int (nI rc), .int (nI rl), .int (nI ps)])), (ab, .inl (cI, 4096, .inl (rf_D f rl ps n y)))] H ∧ va_D A [(h0, .inr (0, [.ref ab, .int (nI rc), .int (nI rl), .int (nI ps)])), (ab, .inl (cI, 4096, .inl (rf_D f rl ps n y)))] ∧ va_S A s.heap H locs) ?_ (0) ⟨Nat.zero_le _, by rw [Nat.pow_zero, Nat.div_one]; exact lv_sub hl [3, 4, 2, 1, 0] rfl, hP, hD, hS⟩
  intro y ls H locs hI ih
  obtain ⟨hj, hl, hP, hD, hS⟩ := hI
  refine lv_iload hx hb dX0_undo_22 (lv_at hl 4 rfl) ?_
  refine lv_iload_n hx hb dX0_undo_24 rfl (lv_at hl 2 rfl) ?_
  refine lv_icmp_ge (tgt := 47) hx hb dX0_undo_25 (by decide) (fun hc => ?_) (fun hc => ?_)
  · have hi : y = min rc 8 := by have := (nI_leI (by omega) (by omega)).mp hc; omega
    rw [hi] at hP hD
    exact W.vret hx hb hr (fun t ht hW => ⟨⟨(), rfl, trivial, by rw [ht]; exact hP, va_K.moved hW.alike hK, hD⟩, hS.F ht⟩) hS.2.2 dX0_undo_47
  · have hi : y < min rc 8 := Nat.lt_of_not_le (fun q => hc ((nI_leI (by omega) (by omega)).mpr q))
    have hy : y < rc := by omega
    have hd : n / 5 ^ y ≤ 390624 := Nat.le_trans (Nat.div_le_self _ _) hn
    have hm : n / 5 ^ y % 5 ≤ 4 := by omega
    refine lv_aload_n hx hb dX0_undo_28 rfl (lv_at hl 0 rfl) ?_
    refine lv_iload hx hb dX0_undo_29 (lv_at hl 4 rfl) ?_
    refine lv_iload_n hx hb dX0_undo_31 rfl (lv_at hl 3 rfl) ?_
    refine lv_iconst (v := 5) hx hb dX0_undo_32 (by decide) ?_
    refine lv_irem hx hb dX0_undo_33 (by decide) ?_
    refine W.eq (g2 := F0 m 34 ls [.int (nI (n / 5 ^ y % 5)), .int (nI y), .ref h0]) (congrArg (fun z9 => F0 m 34 ls [.int z9, .int (nI y), .ref h0]) (show ((nI (n / 5 ^ y)) - (nI (n / 5 ^ y)) / 5 * 5) = nI (n / 5 ^ y % 5) from rf_rem (b := 5) (by omega) (by omega))) ?_
    have hFc := va_free (wc := [(h0, .inr (0, [.ref ab, .int (nI rc), .int (nI rl), .int (nI ps)])), (ab, .inl (cI, 4096, .inl (rf_D f rl ps n y)))]) hD hS hA [0, 1] rfl
    refine va_callv (va_runV (C := RX0) (As := [.int (nI y), .int (nI (n / 5 ^ y % 5))]) (rest := []) ⟨hx, hb, hml, hown, hts⟩ (c_X0_restoreRow l dC dI cI h0 ab rc rl ps (rf_D f rl ps n y) H.size y (n / 5 ^ y % 5) ok hy hm) (cwV 2 hts gX0_undo_X0_restoreRow rfl rfl rfl (by decide +kernel) ⟨Nat.le_of_ble_eq_true rfl, Nat.le_of_ble_eq_true rfl⟩) ⟨fun a U g mk q => by obtain ⟨q0, q1, qP, qK, qD⟩ := q; exact ⟨q0, q1, qP, va_K.moved (u := U) (U := U.calling g mk a) (Vm.Alike.refl U.vm) qK, qD⟩, va_recv hK hP (ci := 0) (q0 := 0) rfl rfl, fun U hU hW => ⟨rfl, by rw [hU], by rw [hU]; exact hP, va_K.moved hW.alike hK, hD.weaken (fun _ _ _ _ => trivial)⟩⟩ rfl rfl hl.1 rfl (lv_room (Nat.le_of_ble_eq_true rfl)) dX0_undo_34 ⟨Nat.zero_le _, Nat.zero_le _⟩) hS (fun q _ h => hFc q h) hFc (fun u t9 H1 locs ht hvm hw hB hz1 hk1 hS => ?_)
    obtain ⟨hP1, hK1, hD1⟩ := hB
    rw [ht] at hP1
    obtain ⟨hP, hD⟩ := va_join (wr := []) (w1 := [(h0, .inr (0, [.ref ab, .int (nI rc), .int (nI rl), .int (nI ps)])), (ab, .inl (cI, 4096, .inl (rf_U (rf_D f rl ps n y) rl ps y (n / 5 ^ y % 5) rl)))]) hP hD [0, 1] [] rfl rfl (by decide) (by decide) hk1 hFc hP1 hD1
    generalize H1 = H at hP hS ⊢
    have hP : va_P (dC, dI) rw_cl [(h0, .inr (0, [.ref ab, .int (nI rc), .int (nI rl), .int (nI ps)])), (ab, .inl (cI, 4096, .inl (rf_U (rf_D f rl ps n y) rl ps y (n / 5 ^ y % 5) rl)))] H := hP
    have hD : va_D A [(h0, .inr (0, [.ref ab, .int (nI rc), .int (nI rl), .int (nI ps)])), (ab, .inl (cI, 4096, .inl (rf_U (rf_D f rl ps n y) rl ps y (n / 5 ^ y % 5) rl)))] := hD
    refine W.widen (k := 0) (n := 0) (Nat.le_refl _) (Nat.le_refl _) ?_
    refine lv_iload_n hx hb dX0_undo_37 rfl (lv_at hl 3 rfl) ?_
    refine lv_iconst (v := 5) hx hb dX0_undo_38 (by decide) ?_
    refine lv_idiv hx hb dX0_undo_39 (by decide) ?_
    refine W.eq (g2 := F0 m 40 ls [.int (nI (n / 5 ^ (y + 1)))]) (congrArg (fun z9 => F0 m 40 ls [.int z9]) (show ((nI (n / 5 ^ y)) / 5) = nI (n / 5 ^ (y + 1)) from (rf_div (b := 5) (by omega) (by omega)).trans (by rw [Nat.div_div_eq_div_mul, ← Nat.pow_succ]))) ?_
    refine lv_istore_n hx hb dX0_undo_40 rfl hl (by decide) rfl (fun ls hl => ?_)
    have hl : lv_has ls 5 [(3, .int (nI (n / 5 ^ (y + 1)))), (0, .ref h0), (1, .int (nI n)), (2, .int (nI (min rc 8))), (4, .int (nI y))] := hl
    refine lv_iinc (k := 4) (v := (nI (y + 1))) hx hb dX0_undo_41 hl rfl (rf_inc y) (by decide) rfl (fun ls hl => ?_)
    have hl : lv_has ls 5 [(4, .int (nI (y + 1))), (3, .int (nI (n / 5 ^ (y + 1)))), (0, .ref h0), (1, .int (nI n)), (2, .int (nI (min rc 8)))] := hl
    refine lv_goto (tgt := 22) hx hb dX0_undo_44 (by decide) ?_
    have e9 : (rf_U (rf_D f rl ps n y) rl ps y (n / 5 ^ y % 5) rl) = (rf_D f rl ps n (y + 1)) := rfl
    rw [e9] at hP hD
    exact ih (y + 1) _ _ _ (by show min rc 8 - (y + 1) < min rc 8 - y; omega) ⟨by omega, lv_sub hl [2, 3, 4, 1, 0] rfl, hP, hD, hS⟩
end
section
set_option maxHeartbeats 4000000 in
set_option maxRecDepth 100000 in
theorem c_X0_pass (l : Launch) (t1 t2 t3 t4 : Nat) (h0 : Nat) (k w h : Nat) (b : Int32) (hk : k ≤ 6) (hw1 : 1 ≤ w) (hw2 : w ≤ 100000) (hh1 : 1 ≤ h) (hh2 : h ≤ 100000) : Met l yX0_pass wsX0_pass ({ frames := 1, cells := 0, slots := 0, locals := 22 }) (va_Pc [.ref h0, .int (nI k), .int (nI w), .int (nI h), .int b] (rw_st t1 t2 t3 t4)) (vp_Si (fun r => r = rf_pr k w h b)) 0 0 (fun _ => False) := by
  refine Met.ofW (cc := cX0_pass) (maxL := 7) (ret := (some .int)) (by decide) rfl ?_
  intro p e s m args below meth c s₁ B hml hv
  obtain ⟨rfl, hZ⟩ := hv
  have hx := B.exec
  have hb := B.bytes
  have hr := B.returns
  have hts := atoms_spec (ws := wsX0_pass) B.pre
  have hown : s.vm.findClass RX0 = some m.cls := findClass_of_methodNamed B.named
  have hlocks := B.notSynchronized
  have hS : va_S (fun _ => False) s.heap s.heap [] := va_S.rf
  have hl := lv_entry ([.ref h0, .int (nI k), .int (nI w), .int (nI h), .int b]) (n := 7) (Nat.le_of_ble_eq_true rfl)
  rw [lg_entry_eq]
  generalize (lg_sl ([.ref h0, .int (nI k), .int (nI w), .int (nI h), .int b]) ++ List.replicate (7 - (lg_sl ([.ref h0, .int (nI k), .int (nI w), .int (nI h), .int b])).length) Slot.unset).toArray = ls at hl ⊢
  have hl : lv_has ls 7 [(0, .ref h0), (1, .int (nI k)), (2, .int (nI w)), (3, .int (nI h)), (4, .int b)] := hl
  have h8 := rf_s8 hk
  have hx1 := rf_n_le (rf_sx k) (rf_fx k) w
  have hy1 := rf_n_le (rf_sy k) (rf_fy k) h
  refine lv_iload_n hx hb dX0_pass_0 rfl (lv_at hl 1 rfl) ?_
  refine lv_iconst (v := 0) hx hb dX0_pass_1 (by decide) ?_
  refine lv_bipush (v := 6) hx hb dX0_pass_2 (by decide) ?_
  refine va_csv (W.runS (As := [.int (nI k), .int 0, .int 6]) (rest := []) ⟨hx, hb, hml, hown, hts⟩ (c_X0_requireWithin l (nI k) 0 6 (nI_pos (by omega)) (nI_nlt (a := 6) hk (by omega))) (va_cwS 3 hts gX0_pass_X0_requireWithin rfl rfl rfl (by decide +kernel) ⟨Nat.le_of_ble_eq_true rfl, Nat.le_of_ble_eq_true rfl⟩) ⟨fun _ _ _ _ q => q, fun U hU hW => ⟨rfl, trivial⟩⟩ rfl rfl hl.1 rfl (lv_room (Nat.le_of_ble_eq_true rfl)) dX0_pass_4 ⟨Nat.zero_le _, Nat.zero_le _⟩) (fun _ => ?_)
  refine lv_iload_n hx hb dX0_pass_7 rfl (lv_at hl 2 rfl) ?_
  refine lv_iconst (v := 1) hx hb dX0_pass_8 (by decide) ?_
  refine lv_ldc hx hb hown (hts (.constant RX0 61 (100000)) (by decide +kernel)) dX0_pass_9 ?_
  refine va_csv (W.runS (As := [.int (nI w), .int 1, .int 100000]) (rest := []) ⟨hx, hb, hml, hown, hts⟩ (c_X0_requireWithin l (nI w) 1 100000 (nI_nlt (b := 1) hw1 (by omega)) (nI_nlt (a := 100000) hw2 (by omega))) (va_cwS 3 hts gX0_pass_X0_requireWithin rfl rfl rfl (by decide +kernel) ⟨Nat.le_of_ble_eq_true rfl, Nat.le_of_ble_eq_true rfl⟩) ⟨fun _ _ _ _ q => q, fun U hU hW => ⟨rfl, trivial⟩⟩ rfl rfl hl.1 rfl (lv_room (Nat.le_of_ble_eq_true rfl)) dX0_pass_11 ⟨Nat.zero_le _, Nat.zero_le _⟩) (fun _ => ?_)
  refine lv_iload_n hx hb dX0_pass_14 rfl (lv_at hl 3 rfl) ?_
  refine lv_iconst (v := 1) hx hb dX0_pass_15 (by decide) ?_
  refine lv_ldc hx hb hown (hts (.constant RX0 61 (100000)) (by decide +kernel)) dX0_pass_16 ?_
  refine va_csv (W.runS (As := [.int (nI h), .int 1, .int 100000]) (rest := []) ⟨hx, hb, hml, hown, hts⟩ (c_X0_requireWithin l (nI h) 1 100000 (nI_nlt (b := 1) hh1 (by omega)) (nI_nlt (a := 100000) hh2 (by omega))) (va_cwS 3 hts gX0_pass_X0_requireWithin rfl rfl rfl (by decide +kernel) ⟨Nat.le_of_ble_eq_true rfl, Nat.le_of_ble_eq_true rfl⟩) ⟨fun _ _ _ _ q => q, fun U hU hW => ⟨rfl, trivial⟩⟩ rfl rfl hl.1 rfl (lv_room (Nat.le_of_ble_eq_true rfl)) dX0_pass_18 ⟨Nat.zero_le _, Nat.zero_le _⟩) (fun _ => ?_)
  refine lv_iload_n hx hb dX0_pass_21 rfl (lv_at hl 2 rfl) ?_
  refine va_gets (v := .ref t1) hx hb hZ.1 hS hown (hts (.fieldLink RX0 62 "RowFilters" "PASS_FROM_X" "[I") (by decide +kernel)) (fun _ h9 => h9) dX0_pass_22 ?_
  refine lv_iload_n hx hb dX0_pass_25 rfl (lv_at hl 1 rfl) ?_
  refine va_ti (v := .int (nI (rf_fx k))) hx hb hZ.2.1 hS (vp_in_nI (by omega) (by omega)) (by show Value.int (nI (rf_fx (nI k).toNatClampNeg)) = _; rw [nI_clamp (by omega)]) dX0_pass_26 ?_
  refine va_gets (v := .ref t3) hx hb hZ.2.2.2.2.1 hS hown (hts (.fieldLink RX0 65 "RowFilters" "PASS_STEP_X" "[I") (by decide +kernel)) (fun _ h9 => h9) dX0_pass_27 ?_
  refine lv_iload_n hx hb dX0_pass_30 rfl (lv_at hl 1 rfl) ?_
  refine va_ti (v := .int (nI (rf_sx k))) hx hb hZ.2.2.2.2.2.1 hS (vp_in_nI (by omega) (by omega)) (by show Value.int (nI (rf_sx (nI k).toNatClampNeg)) = _; rw [nI_clamp (by omega)]) dX0_pass_31 ?_
  refine vp_callSi (W.runS (As := [.int (nI w), .int (nI (rf_fx k)), .int (nI (rf_sx k))]) (rest := []) ⟨hx, hb, hml, hown, hts⟩ (c_X0_pointsAlong l (nI w) (nI (rf_fx k)) (nI (rf_sx k)) (nI_ne0 (by omega) (by omega))) (va_cwS 3 hts gX0_pass_X0_pointsAlong rfl rfl rfl (by decide +kernel) ⟨Nat.le_of_ble_eq_true rfl, Nat.le_of_ble_eq_true rfl⟩) ⟨fun _ _ _ _ q => q, fun U hU hW => ⟨rfl, trivial⟩⟩ rfl rfl hl.1 rfl (lv_room (Nat.le_of_ble_eq_true rfl)) dX0_pass_32 ⟨Nat.zero_le _, Nat.zero_le _⟩) (fun r1 er1 => ?_)
  rw [rf_pax hk hw2] at er1
  subst er1
  refine lv_istore hx hb dX0_pass_35 hl (by decide) rfl (fun ls hl => ?_)
  have hl : lv_has ls 7 [(5, .int (nI (rf_n (rf_sx k) (rf_fx k) w))), (0, .ref h0), (1, .int (nI k)), (2, .int (nI w)), (3, .int (nI h)), (4, .int b)] := hl
  refine lv_iload_n hx hb dX0_pass_37 rfl (lv_at hl 4 rfl) ?_
  refine va_gets (v := .ref t2) hx hb hZ.2.2.1 hS hown (hts (.fieldLink RX0 72 "RowFilters" "PASS_FROM_Y" "[I") (by decide +kernel)) (fun _ h9 => h9) dX0_pass_38 ?_
  refine lv_iload_n hx hb dX0_pass_41 rfl (lv_at hl 2 rfl) ?_
  refine va_ti (v := .int (nI (rf_fy k))) hx hb hZ.2.2.2.1 hS (vp_in_nI (by omega) (by omega)) (by show Value.int (nI (rf_fy (nI k).toNatClampNeg)) = _; rw [nI_clamp (by omega)]) dX0_pass_42 ?_
  refine va_gets (v := .ref t4) hx hb hZ.2.2.2.2.2.2.1 hS hown (hts (.fieldLink RX0 75 "RowFilters" "PASS_STEP_Y" "[I") (by decide +kernel)) (fun _ h9 => h9) dX0_pass_43 ?_
  refine lv_iload_n hx hb dX0_pass_46 rfl (lv_at hl 2 rfl) ?_
  refine va_ti (v := .int (nI (rf_sy k))) hx hb hZ.2.2.2.2.2.2.2 hS (vp_in_nI (by omega) (by omega)) (by show Value.int (nI (rf_sy (nI k).toNatClampNeg)) = _; rw [nI_clamp (by omega)]) dX0_pass_47 ?_
  refine vp_callSi (W.runS (As := [.int (nI h), .int (nI (rf_fy k)), .int (nI (rf_sy k))]) (rest := []) ⟨hx, hb, hml, hown, hts⟩ (c_X0_pointsAlong l (nI h) (nI (rf_fy k)) (nI (rf_sy k)) (nI_ne0 (by omega) (by omega))) (va_cwS 3 hts gX0_pass_X0_pointsAlong rfl rfl rfl (by decide +kernel) ⟨Nat.le_of_ble_eq_true rfl, Nat.le_of_ble_eq_true rfl⟩) ⟨fun _ _ _ _ q => q, fun U hU hW => ⟨rfl, trivial⟩⟩ rfl rfl hl.1 rfl (lv_room (Nat.le_of_ble_eq_true rfl)) dX0_pass_48 ⟨Nat.zero_le _, Nat.zero_le _⟩) (fun r2 er2 => ?_)
  rw [rf_pay hk hh2] at er2
  subst er2
  refine lv_istore hx hb dX0_pass_51 hl (by decide) rfl (fun ls hl => ?_)
  have hl : lv_has ls 7 [(6, .int (nI (rf_n (rf_sy k) (rf_fy k) h))), (5, .int (nI (rf_n (rf_sx k) (rf_fx k) w))), (0, .ref h0), (1, .int (nI k)), (2, .int (nI w)), (3, .int (nI h)), (4, .int b)] := hl
  refine lv_iload hx hb dX0_pass_53 (lv_at hl 1 rfl) ?_
  refine lv_if_eq (tgt := 63) hx hb dX0_pass_55 (by decide) (fun z1 => ?_) (fun z1 => ?_)
  · refine lv_iconst (v := 0) hx hb dX0_pass_63 (by decide) ?_
    exact W.iret (v := 0) hx hb hr (fun t ht hW => ⟨0, rfl, by rw [rf_pr, if_pos ((rf_n0 (by omega)).mp z1)], ht⟩) (fun q h => by cases h) dX0_pass_64
  · refine lv_iload hx hb dX0_pass_58 (lv_at hl 0 rfl) ?_
    refine lv_if_ne (tgt := 65) hx hb dX0_pass_60 (by decide) (fun z2 => ?_) (fun z2 => ?_)
    · refine lv_iload hx hb dX0_pass_65 (lv_at hl 6 rfl) ?_
      refine lv_if_eq (tgt := 75) hx hb dX0_pass_67 (by decide) (fun z3 => ?_) (fun z3 => ?_)
      · refine lv_iload hx hb dX0_pass_75 (lv_at hl 1 rfl) ?_
        exact W.iret (v := (nI (rf_n (rf_sx k) (rf_fx k) w))) hx hb hr (fun t ht hW => ⟨(nI (rf_n (rf_sx k) (rf_fx k) w)), rfl, by rw [rf_pr, if_neg (fun q => z1 ((rf_n0 (by omega)).mpr q)), if_neg (fun q => z2 ((rf_n0 (by omega)).mpr q)), if_pos z3], ht⟩) (fun q h => by cases h) dX0_pass_77
      · refine lv_iload hx hb dX0_pass_70 (lv_at hl 0 rfl) ?_
        refine lv_goto (tgt := 77) hx hb dX0_pass_72 (by decide) ?_
        exact W.iret (v := (nI (rf_n (rf_sy k) (rf_fy k) h))) hx hb hr (fun t ht hW => ⟨(nI (rf_n (rf_sy k) (rf_fy k) h)), rfl, by rw [rf_pr, if_neg (fun q => z1 ((rf_n0 (by omega)).mpr q)), if_neg (fun q => z2 ((rf_n0 (by omega)).mpr q)), if_neg z3], ht⟩) (fun q h => by cases h) dX0_pass_77
    · refine lv_iconst (v := 0) hx hb dX0_pass_63 (by decide) ?_
      exact W.iret (v := 0) hx hb hr (fun t ht hW => ⟨0, rfl, by rw [rf_pr, if_neg (fun q => z1 ((rf_n0 (by omega)).mpr q)), if_pos ((rf_n0 (by omega)).mp z2)], ht⟩) (fun q h => by cases h) dX0_pass_64
set_option maxHeartbeats 4000000 in
set_option maxRecDepth 100000 in
theorem c_X0_passOf (l : Launch) (t1 t2 t3 t4 : Nat) (h0 : Nat) (x y : Nat) (hx9 : x ≤ 99999) (hy9 : y ≤ 99999) : Met l yX0_passOf wsX0_passOf ({ frames := 1, cells := 0, slots := 0, locals := 22 }) (va_Pc [.ref h0, .int (nI x), .int (nI y)] (rw_st t1 t2 t3 t4)) (vp_Si (fun r => ∃ k, r = nI k ∧ rf_po x y k)) 0 0 (fun _ => False) := by
  refine Met.ofW (cc := cX0_passOf) (maxL := 4) (ret := (some .int)) (by decide) rfl ?_
  intro p e s m args below meth c s₁ B hml hv
  obtain ⟨rfl, hZ⟩ := hv
  have hx := B.exec
  have hb := B.bytes
  have hr := B.returns
  have hts := atoms_spec (ws := wsX0_passOf) B.pre
  have hown : s.vm.findClass RX0 = some m.cls := findClass_of_methodNamed B.named
  have hlocks := B.notSynchronized
  have hS : va_S (fun _ => False) s.heap s.heap [] := va_S.rf
  have hl := lv_entry ([.ref h0, .int (nI x), .int (nI y)]) (n := 4) (Nat.le_of_ble_eq_true rfl)
  rw [lg_entry_eq]
  generalize (lg_sl ([.ref h0, .int (nI x), .int (nI y)]) ++ List.replicate (4 - (lg_sl ([.ref h0, .int (nI x), .int (nI y)])).length) Slot.unset).toArray = ls at hl ⊢
  have hl : lv_has ls 4 [(0, .ref h0), (1, .int (nI x)), (2, .int (nI y))] := hl
  refine lv_iload_n hx hb dX0_passOf_0 rfl (lv_at hl 1 rfl) ?_
  refine lv_iconst (v := 0) hx hb dX0_passOf_1 (by decide) ?_
  refine lv_ldc hx hb hown (hts (.constant RX0 78 (99999)) (by decide +kernel)) dX0_passOf_2 ?_
  refine va_csv (W.runS (As := [.int (nI x), .int 0, .int 99999]) (rest := []) ⟨hx, hb, hml, hown, hts⟩ (c_X0_requireWithin l (nI x) 0 99999 (nI_pos (by omega)) (nI_nlt (a := 99999) hx9 (by omega))) (va_cwS 3 hts gX0_passOf_X0_requireWithin rfl rfl rfl (by decide +kernel) ⟨Nat.le_of_ble_eq_true rfl, Nat.le_of_ble_eq_true rfl⟩) ⟨fun _ _ _ _ q => q, fun U hU hW => ⟨rfl, trivial⟩⟩ rfl rfl hl.1 rfl (lv_room (Nat.le_of_ble_eq_true rfl)) dX0_passOf_4 ⟨Nat.zero_le _, Nat.zero_le _⟩) (fun _ => ?_)
  refine lv_iload_n hx hb dX0_passOf_7 rfl (lv_at hl 2 rfl) ?_
  refine lv_iconst (v := 0) hx hb dX0_passOf_8 (by decide) ?_
  refine lv_ldc hx hb hown (hts (.constant RX0 78 (99999)) (by decide +kernel)) dX0_passOf_9 ?_
  refine va_csv (W.runS (As := [.int (nI y), .int 0, .int 99999]) (rest := []) ⟨hx, hb, hml, hown, hts⟩ (c_X0_requireWithin l (nI y) 0 99999 (nI_pos (by omega)) (nI_nlt (a := 99999) hy9 (by omega))) (va_cwS 3 hts gX0_passOf_X0_requireWithin rfl rfl rfl (by decide +kernel) ⟨Nat.le_of_ble_eq_true rfl, Nat.le_of_ble_eq_true rfl⟩) ⟨fun _ _ _ _ q => q, fun U hU hW => ⟨rfl, trivial⟩⟩ rfl rfl hl.1 rfl (lv_room (Nat.le_of_ble_eq_true rfl)) dX0_passOf_11 ⟨Nat.zero_le _, Nat.zero_le _⟩) (fun _ => ?_)
  refine lv_iconst (v := 0) hx hb dX0_passOf_14 (by decide) ?_
  refine lv_istore_n hx hb dX0_passOf_15 rfl hl (by decide) rfl (fun ls hl => ?_)
  have hl : lv_has ls 4 [(3, .int 0), (0, .ref h0), (1, .int (nI x)), (2, .int (nI y))] := hl
  refine rw_loop (fun k : Nat => 7 - k) (fun k ls => (k ≤ 6 ∧ ∀ j, j < k → ¬ rf_at j x y) ∧ lv_has ls 4 [(0, .ref h0), (1, .int (nI x)), (2, .int (nI y)), (3, .int (nI k))]) ?_ (0) ⟨⟨Nat.zero_le _, fun j h => absurd h (Nat.not_lt_zero j)⟩, lv_sub hl [1, 2, 3, 0] rfl⟩
  intro k ls hI ih
  obtain ⟨hj, hl⟩ := hI
  refine lv_iload_n hx hb dX0_passOf_16 rfl (lv_at hl 3 rfl) ?_
  refine lv_bipush (v := 6) hx hb dX0_passOf_17 (by decide) ?_
  refine lv_icmp_ge (tgt := 60) hx hb dX0_passOf_19 (by decide) (fun hc => ?_) (fun hc => ?_)
  · have hi : k = 6 := by have := (nI_leI (a := 6) (by omega) (by omega)).mp hc; omega
    subst hi
    refine lv_bipush (v := 6) hx hb dX0_passOf_60 (by decide) ?_
    exact W.iret (v := 6) hx hb hr (fun t ht hW => ⟨6, rfl, ⟨6, rfl, Nat.le_refl 6, rf_tot hj.2, hj.2⟩, ht⟩) (fun q h => by cases h) dX0_passOf_62
  · have hi : k < 6 := Nat.lt_of_not_le (fun q => hc ((nI_leI (a := 6) (by omega) (by omega)).mpr q))
    have h8 := rf_s8 hj.1
    refine lv_iload_n hx hb dX0_passOf_22 rfl (lv_at hl 1 rfl) ?_
    refine va_gets (v := .ref t3) hx hb hZ.2.2.2.2.1 hS hown (hts (.fieldLink RX0 65 "RowFilters" "PASS_STEP_X" "[I") (by decide +kernel)) (fun _ h9 => h9) dX0_passOf_23 ?_
    refine lv_iload_n hx hb dX0_passOf_26 rfl (lv_at hl 3 rfl) ?_
    refine va_ti (v := .int (nI (rf_sx k))) hx hb hZ.2.2.2.2.2.1 hS (vp_in_nI (by omega) (by omega)) (by show Value.int (nI (rf_sx (nI k).toNatClampNeg)) = _; rw [nI_clamp (by omega)]) dX0_passOf_27 ?_
    refine lv_irem hx hb dX0_passOf_28 (nI_ne0 (by omega) (by omega)) ?_
    refine W.eq (g2 := F0 m 29 ls [.int (nI (x % rf_sx k))]) (congrArg (fun z9 => F0 m 29 ls [.int z9]) (show ((nI x) - (nI x) / (nI (rf_sx k)) * (nI (rf_sx k))) = nI (x % rf_sx k) from rf_rem (by omega) (by omega))) ?_
    refine va_gets (v := .ref t1) hx hb hZ.1 hS hown (hts (.fieldLink RX0 62 "RowFilters" "PASS_FROM_X" "[I") (by decide +kernel)) (fun _ h9 => h9) dX0_passOf_29 ?_
    refine lv_iload_n hx hb dX0_passOf_32 rfl (lv_at hl 3 rfl) ?_
    refine va_ti (v := .int (nI (rf_fx k))) hx hb hZ.2.1 hS (vp_in_nI (by omega) (by omega)) (by show Value.int (nI (rf_fx (nI k).toNatClampNeg)) = _; rw [nI_clamp (by omega)]) dX0_passOf_33 ?_
    refine lv_icmp_ne (tgt := 54) hx hb dX0_passOf_34 (by decide) (fun z1 => ?_) (fun z1 => ?_)
    · refine lv_iinc (k := 3) (v := (nI (k + 1))) hx hb dX0_passOf_54 hl rfl (rf_inc k) (by decide) rfl (fun ls hl => ?_)
      have hl : lv_has ls 4 [(3, .int (nI (k + 1))), (0, .ref h0), (1, .int (nI x)), (2, .int (nI y))] := hl
      refine lv_goto (tgt := 16) hx hb dX0_passOf_57 (by decide) ?_
      exact ih (k + 1) _ (by show 7 - (k + 1) < 7 - k; omega) ⟨⟨by omega, lt_s hj.2 (fun q => z1 (congrArg nI q.1))⟩, lv_sub hl [1, 2, 3, 0] rfl⟩
    · have hm : x % rf_sx k < rf_sx k := Nat.mod_lt _ (by omega)
      refine lv_iload_n hx hb dX0_passOf_37 rfl (lv_at hl 2 rfl) ?_
      refine va_gets (v := .ref t4) hx hb hZ.2.2.2.2.2.2.1 hS hown (hts (.fieldLink RX0 75 "RowFilters" "PASS_STEP_Y" "[I") (by decide +kernel)) (fun _ h9 => h9) dX0_passOf_38 ?_
      refine lv_iload_n hx hb dX0_passOf_41 rfl (lv_at hl 3 rfl) ?_
      refine va_ti (v := .int (nI (rf_sy k))) hx hb hZ.2.2.2.2.2.2.2 hS (vp_in_nI (by omega) (by omega)) (by show Value.int (nI (rf_sy (nI k).toNatClampNeg)) = _; rw [nI_clamp (by omega)]) dX0_passOf_42 ?_
      refine lv_irem hx hb dX0_passOf_43 (nI_ne0 (by omega) (by omega)) ?_
      refine W.eq (g2 := F0 m 44 ls [.int (nI (y % rf_sy k))]) (congrArg (fun z9 => F0 m 44 ls [.int z9]) (show ((nI y) - (nI y) / (nI (rf_sy k)) * (nI (rf_sy k))) = nI (y % rf_sy k) from rf_rem (by omega) (by omega))) ?_
      refine va_gets (v := .ref t2) hx hb hZ.2.2.1 hS hown (hts (.fieldLink RX0 72 "RowFilters" "PASS_FROM_Y" "[I") (by decide +kernel)) (fun _ h9 => h9) dX0_passOf_44 ?_
      refine lv_iload_n hx hb dX0_passOf_47 rfl (lv_at hl 3 rfl) ?_
      refine va_ti (v := .int (nI (rf_fy k))) hx hb hZ.2.2.2.1 hS (vp_in_nI (by omega) (by omega)) (by show Value.int (nI (rf_fy (nI k).toNatClampNeg)) = _; rw [nI_clamp (by omega)]) dX0_passOf_48 ?_
      refine lv_icmp_ne (tgt := 54) hx hb dX0_passOf_49 (by decide) (fun z2 => ?_) (fun z2 => ?_)
      · refine lv_iinc (k := 3) (v := (nI (k + 1))) hx hb dX0_passOf_54 hl rfl (rf_inc k) (by decide) rfl (fun ls hl => ?_)
        have hl : lv_has ls 4 [(3, .int (nI (k + 1))), (0, .ref h0), (1, .int (nI x)), (2, .int (nI y))] := hl
        refine lv_goto (tgt := 16) hx hb dX0_passOf_57 (by decide) ?_
        exact ih (k + 1) _ (by show 7 - (k + 1) < 7 - k; omega) ⟨⟨by omega, lt_s hj.2 (fun q => z2 (congrArg nI q.2))⟩, lv_sub hl [1, 2, 3, 0] rfl⟩
      · have hm2 : y % rf_sy k < rf_sy k := Nat.mod_lt _ (by omega)
        refine lv_iload_n hx hb dX0_passOf_52 rfl (lv_at hl 3 rfl) ?_
        exact W.iret (v := (nI k)) hx hb hr (fun t ht hW => ⟨(nI k), rfl, ⟨k, rfl, hj.1, ⟨(nI_eq (by omega) (by omega)).mp z1, (nI_eq (by omega) (by omega)).mp z2⟩, hj.2⟩, ht⟩) (fun q h => by cases h) dX0_passOf_53
end
section
set_option maxHeartbeats 4000000 in
set_option maxRecDepth 100000 in
theorem c_Y1_thrown (l : Launch) (dC : Nat → ClassId) (dI : Nat → Nat → Nat) (cI cJ : ClassId) (h0 b1 b2 : Nat) (fl : Int32) (rc rl ps : Nat) (g t : Nat → Int32)  : Met l yY1_thrown wsY1_thrown ({ frames := 0, cells := 0, slots := 0, locals := 0 }) (va_Pc [.ref h0] (rv_pre dC dI cI cJ h0 b1 b2 fl rc rl ps g t)) (vp_Si (fun r => r = fl)) 0 0 (fun _ => False) := by
  refine Met.ofW (cc := cY1_thrown) (maxL := 1) (ret := (some .int)) (by decide) rfl ?_
  intro p e s m args below meth c s₁ B hml hv
  obtain ⟨rfl, hP, hK⟩ := hv
  have hx := B.exec
  have hb := B.bytes
  have hr := B.returns
  have hts := atoms_spec (ws := wsY1_thrown) B.pre
  have hown : s.vm.findClass RX1 = some m.cls := findClass_of_methodNamed B.named
  have hlocks := B.notSynchronized
  have hP : va_P (dC, dI) rw_cl (rv_W h0 b1 b2 cI cJ fl rc rl ps g t) s.heap := hP
  have hl := lv_entry ([.ref h0]) (n := 1) (Nat.le_of_ble_eq_true rfl)
  rw [lg_entry_eq]
  generalize (lg_sl ([.ref h0]) ++ List.replicate (1 - (lg_sl ([.ref h0])).length) Slot.unset).toArray = ls at hl ⊢
  have hl : lv_has ls 1 [(0, .ref h0)] := hl
  refine lv_aload_n hx hb dY1_thrown_0 rfl (lv_at hl 0 rfl) ?_
  refine va_get (D := (dC, dI)) (ci := 1) (v := .int fl) (C := RX1) (T := TY1) (N := 6) hx hb hts (by decide +kernel) hown hK hP 0 rfl rfl 0 (by decide) (hts (.fieldLink RX1 26 "RowFiltersModel" "failed" "I") (by decide +kernel)) (fun _ h9 => h9) rfl dY1_thrown_1 ?_
  exact W.iret (v := fl) hx hb hr (fun t ht hW => ⟨fl, rfl, rfl, ht⟩) (fun q h => by cases h) dY1_thrown_4
set_option maxHeartbeats 4000000 in
set_option maxRecDepth 100000 in
theorem c_Y1_fail (l : Launch) (dC : Nat → ClassId) (dI : Nat → Nat → Nat) (cI cJ : ClassId) (h0 b1 b2 : Nat) (fl : Int32) (rc rl ps : Nat) (g t : Nat → Int32) (sz : Nat) (k : Int32) : Met l yY1_fail wsY1_fail ({ frames := 0, cells := 0, slots := 0, locals := 0 }) (va_Pc [.ref h0, .int k] (rv_preD dC dI cI cJ h0 b1 b2 fl rc rl ps g t sz)) (va_Qi (fun (r : Int32) (_ : Unit) => r = 0) (fun _ t9 => rv_B dC dI cI cJ h0 b1 b2 k rc rl ps g t (va_A (rv_W h0 b1 b2 cI cJ fl rc rl ps g t) sz) t9) (va_A (rv_W h0 b1 b2 cI cJ fl rc rl ps g t) sz)) 0 0 (va_A (rv_W h0 b1 b2 cI cJ fl rc rl ps g t) sz) := by
  refine Met.ofW (cc := cY1_fail) (maxL := 2) (ret := (some .int)) (by decide) rfl ?_
  intro p e s m args below meth c s₁ B hml hv
  obtain ⟨rfl, hsz, hP, hK, hD0⟩ := hv
  have hx := B.exec
  have hb := B.bytes
  have hr := B.returns
  have hts := atoms_spec (ws := wsY1_fail) B.pre
  have hown : s.vm.findClass RX1 = some m.cls := findClass_of_methodNamed B.named
  have hlocks := B.notSynchronized
  subst hsz
  have hD := hD0.self (sz := s.heap.size)
  generalize hAe : va_A (rv_W h0 b1 b2 cI cJ fl rc rl ps g t) s.heap.size = A at hD ⊢
  have hA : ∀ q : Nat, s.heap.size ≤ q → A q := fun q h => by rw [← hAe]; exact Or.inr h
  have hS : va_S A s.heap s.heap [] := va_S.rf
  have hP : va_P (dC, dI) rw_cl (rv_W h0 b1 b2 cI cJ fl rc rl ps g t) s.heap := hP
  have hl := lv_entry ([.ref h0, .int k]) (n := 2) (Nat.le_of_ble_eq_true rfl)
  rw [lg_entry_eq]
  generalize (lg_sl ([.ref h0, .int k]) ++ List.replicate (2 - (lg_sl ([.ref h0, .int k])).length) Slot.unset).toArray = ls at hl ⊢
  have hl : lv_has ls 2 [(0, .ref h0), (1, .int k)] := hl
  refine lv_aload_n hx hb dY1_fail_0 rfl (lv_at hl 0 rfl) ?_
  refine lv_iload_n hx hb dY1_fail_1 rfl (lv_at hl 1 rfl) ?_
  refine va_put (D := (dC, dI)) (ci := 1) (v := .int k) (ty := .int) (C := RX1) (T := TY1) (N := 6) hx hb hts (by decide +kernel) tyY1 tyY1_ok nmY1 hown hK hP hD hS 0 rfl rfl 0 (by decide) (hts (.fieldLink RX1 26 "RowFiltersModel" "failed" "I") (by decide +kernel)) (fun _ h9 => h9) rfl (by decide +kernel) rfl rfl (Nat.le_of_ble_eq_true rfl) dY1_fail_2 (fun H locs hP hD hS => ?_)
  have hP : va_P (dC, dI) rw_cl [(h0, .inr (1, [.int k, .int (nI rc), .int (nI rl), .int (nI ps), .ref b1, .ref b2])), (b1, .inl (cI, 4096, .inl g)), (b2, .inl (cJ, 4096, .inl t))] H := hP
  have hD : va_D A [(h0, .inr (1, [.int k, .int (nI rc), .int (nI rl), .int (nI ps), .ref b1, .ref b2])), (b1, .inl (cI, 4096, .inl g)), (b2, .inl (cJ, 4096, .inl t))] := hD
  refine lv_iconst (v := 0) hx hb dY1_fail_5 (by decide) ?_
  exact W.iret (v := 0) hx hb hr (fun t ht hW => ⟨⟨0, (), rfl, rfl, by rw [ht]; exact hP, va_K.moved hW.alike hK, hD⟩, hS.F ht⟩) hS.2.2 dY1_fail_6
set_option maxHeartbeats 4000000 in
set_option maxRecDepth 100000 in
theorem c_Y1_at (l : Launch) (dC : Nat → ClassId) (dI : Nat → Nat → Nat) (cI cJ : ClassId) (h0 b1 b2 : Nat) (fl : Int32) (rc rl ps : Nat) (g t : Nat → Int32) (y i : Int32) (hin : ¬ y < 0 → ¬ i < 0 → vp_in (y * nI rl + i) 4096) : Met l yY1_at wsY1_at ({ frames := 0, cells := 0, slots := 0, locals := 0 }) (va_Pc [.ref h0, .int y, .int i] (rv_pre dC dI cI cJ h0 b1 b2 fl rc rl ps g t)) (vp_Si (fun r => r = rf_z g rl y i)) 0 0 (fun _ => False) := by
  refine Met.ofW (cc := cY1_at) (maxL := 3) (ret := (some .int)) (by decide) rfl ?_
  intro p e s m args below meth c s₁ B hml hv
  obtain ⟨rfl, hP, hK⟩ := hv
  have hx := B.exec
  have hb := B.bytes
  have hr := B.returns
  have hts := atoms_spec (ws := wsY1_at) B.pre
  have hown : s.vm.findClass RX1 = some m.cls := findClass_of_methodNamed B.named
  have hlocks := B.notSynchronized
  have hP : va_P (dC, dI) rw_cl (rv_W h0 b1 b2 cI cJ fl rc rl ps g t) s.heap := hP
  have hl := lv_entry ([.ref h0, .int y, .int i]) (n := 3) (Nat.le_of_ble_eq_true rfl)
  rw [lg_entry_eq]
  generalize (lg_sl ([.ref h0, .int y, .int i]) ++ List.replicate (3 - (lg_sl ([.ref h0, .int y, .int i])).length) Slot.unset).toArray = ls at hl ⊢
  have hl : lv_has ls 3 [(0, .ref h0), (1, .int y), (2, .int i)] := hl
  refine lv_iload_n hx hb dY1_at_0 rfl (lv_at hl 1 rfl) ?_
  refine lv_if_lt (tgt := 8) hx hb dY1_at_1 (by decide) (fun hy => ?_) (fun hy => ?_)
  · refine lv_iconst (v := 0) hx hb dY1_at_8 (by decide) ?_
    refine lv_goto (tgt := 25) hx hb dY1_at_9 (by decide) ?_
    exact W.iret (v := 0) hx hb hr (fun t ht hW => ⟨0, rfl, by rw [rf_z, if_pos hy], ht⟩) (fun q h => by cases h) dY1_at_25
  · refine lv_iload_n hx hb dY1_at_4 rfl (lv_at hl 2 rfl) ?_
    refine lv_if_ge (tgt := 12) hx hb dY1_at_5 (by decide) (fun hi => ?_) (fun hi => ?_)
    · refine lv_aload_n hx hb dY1_at_12 rfl (lv_at hl 0 rfl) ?_
      refine va_get (D := (dC, dI)) (ci := 1) (v := .ref b1) (C := RX1) (T := TY1) (N := 6) hx hb hts (by decide +kernel) hown hK hP 0 rfl rfl 4 (by decide) (hts (.fieldLink RX1 19 "RowFiltersModel" "bytes" "[I") (by decide +kernel)) (fun _ h9 => h9) rfl dY1_at_13 ?_
      refine lv_iload_n hx hb dY1_at_16 rfl (lv_at hl 1 rfl) ?_
      refine lv_aload_n hx hb dY1_at_17 rfl (lv_at hl 0 rfl) ?_
      refine va_get (D := (dC, dI)) (ci := 1) (v := .int (nI rl)) (C := RX1) (T := TY1) (N := 6) hx hb hts (by decide +kernel) hown hK hP 0 rfl rfl 2 (by decide) (hts (.fieldLink RX1 13 "RowFiltersModel" "width" "I") (by decide +kernel)) (fun _ h9 => h9) rfl dY1_at_18 ?_
      refine lv_imul hx hb dY1_at_21 ?_
      refine lv_iload_n hx hb dY1_at_22 rfl (lv_at hl 2 rfl) ?_
      refine lv_iadd hx hb dY1_at_23 ?_
      refine va_iald hx hb hK hP 1 0 rfl rfl (hin hy (Int32.not_lt.mpr hi)) dY1_at_24 ?_
      exact W.iret (v := (g ((y * (nI rl)) + i).toNatClampNeg)) hx hb hr (fun t ht hW => ⟨(g ((y * (nI rl)) + i).toNatClampNeg), rfl, by rw [rf_z, if_neg hy, if_neg (Int32.not_lt.mpr hi)], ht⟩) (fun q h => by cases h) dY1_at_25
    · refine lv_iconst (v := 0) hx hb dY1_at_8 (by decide) ?_
      refine lv_goto (tgt := 25) hx hb dY1_at_9 (by decide) ?_
      exact W.iret (v := 0) hx hb hr (fun t ht hW => ⟨0, rfl, by rw [rf_z, if_neg hy, if_pos (Int32.not_le.mp hi)], ht⟩) (fun q h => by cases h) dY1_at_25
end
section
set_option maxHeartbeats 4000000 in
set_option maxRecDepth 100000 in
theorem c_Y1_guess (l : Launch) (dC : Nat → ClassId) (dI : Nat → Nat → Nat) (cI cJ : ClassId) (h0 b1 b2 : Nat) (fl : Int32) (rc rl ps : Nat) (g t : Nat → Int32) (y i q : Nat) (ok : rf_ok rc rl ps) (hy : y < rc) (hi : i < rl) (hq : q ≤ 4) : Met l yY1_guess wsY1_guess ({ frames := 1, cells := 0, slots := 0, locals := 22 }) (va_Pc [.ref h0, .int (nI y), .int (nI i), .int (nI q)] (rv_pre dC dI cI cJ h0 b1 b2 fl rc rl ps g t)) (vp_Si (fun r => r = rf_g g rl ps y i q)) 0 0 (fun _ => False) := by
  refine Met.ofW (cc := cY1_guess) (maxL := 11) (ret := (some .int)) (by decide) rfl ?_
  intro p e s m args below meth c s₁ B hml hv
  obtain ⟨rfl, hP, hK⟩ := hv
  have hx := B.exec
  have hb := B.bytes
  have hr := B.returns
  have hts := atoms_spec (ws := wsY1_guess) B.pre
  have hown : s.vm.findClass RX1 = some m.cls := findClass_of_methodNamed B.named
  have hlocks := B.notSynchronized
  have hP : va_P (dC, dI) rw_cl (rv_W h0 b1 b2 cI cJ fl rc rl ps g t) s.heap := hP
  have hl := lv_entry ([.ref h0, .int (nI y), .int (nI i), .int (nI q)]) (n := 11) (Nat.le_of_ble_eq_true rfl)
  rw [lg_entry_eq]
  generalize (lg_sl ([.ref h0, .int (nI y), .int (nI i), .int (nI q)]) ++ List.replicate (11 - (lg_sl ([.ref h0, .int (nI y), .int (nI i), .int (nI q)])).length) Slot.unset).toArray = ls at hl ⊢
  have hl : lv_has ls 11 [(0, .ref h0), (1, .int (nI y)), (2, .int (nI i)), (3, .int (nI q))] := hl
  have h1 := ok.rc
  have h2 := ok.rl
  have h3 := ok.k hy hi
  have h4 := ok.2.2.2.2
  refine lv_aload_n hx hb dY1_guess_0 rfl (lv_at hl 0 rfl) ?_
  refine lv_iload_n hx hb dY1_guess_1 rfl (lv_at hl 1 rfl) ?_
  refine lv_iload_n hx hb dY1_guess_2 rfl (lv_at hl 2 rfl) ?_
  refine lv_aload_n hx hb dY1_guess_3 rfl (lv_at hl 0 rfl) ?_
  refine va_get (D := (dC, dI)) (ci := 1) (v := .int (nI ps)) (C := RX1) (T := TY1) (N := 6) hx hb hts (by decide +kernel) hown hK hP 0 rfl rfl 3 (by decide) (hts (.fieldLink RX1 16 "RowFiltersModel" "step" "I") (by decide +kernel)) (fun _ h9 => h9) rfl dY1_guess_4 ?_
  refine lv_isub hx hb dY1_guess_7 ?_
  refine vp_callSi (W.runV (C := RX1) (As := [.int (nI y), .int ((nI i) - (nI ps))]) (rest := []) ⟨hx, hb, hml, hown, hts⟩ (c_Y1_at l dC dI cI cJ h0 b1 b2 fl rc rl ps g t (nI y) (nI i - nI ps) (rf_in (rf_in_0 y) (rf_in_p h4) h3)) (cwV 2 hts gY1_guess_Y1_at rfl rfl rfl (by decide +kernel) ⟨Nat.le_of_ble_eq_true rfl, Nat.le_of_ble_eq_true rfl⟩) ⟨fun a U g mk q => by obtain ⟨q0, qP, qK⟩ := q; exact ⟨q0, qP, va_K.moved (u := U) (U := U.calling g mk a) (Vm.Alike.refl U.vm) qK⟩, va_recv hK hP (ci := 1) (q0 := 0) rfl rfl, fun U hU hW => ⟨rfl, by rw [hU]; exact hP, va_K.moved hW.alike hK⟩⟩ rfl rfl hl.1 rfl (lv_room (Nat.le_of_ble_eq_true rfl)) dY1_guess_8 ⟨Nat.zero_le _, Nat.zero_le _⟩) (fun a ea => ?_)
  rw [rf_z_a (by omega) (by omega) h4 h3] at ea
  refine lv_istore hx hb dY1_guess_11 hl (by decide) rfl (fun ls hl => ?_)
  have hl : lv_has ls 11 [(4, .int a), (0, .ref h0), (1, .int (nI y)), (2, .int (nI i)), (3, .int (nI q))] := hl
  refine lv_aload_n hx hb dY1_guess_13 rfl (lv_at hl 1 rfl) ?_
  refine lv_iload_n hx hb dY1_guess_14 rfl (lv_at hl 2 rfl) ?_
  refine lv_iconst (v := 1) hx hb dY1_guess_15 (by decide) ?_
  refine lv_isub hx hb dY1_guess_16 ?_
  refine lv_iload_n hx hb dY1_guess_17 rfl (lv_at hl 3 rfl) ?_
  refine vp_callSi (W.runV (C := RX1) (As := [.int ((nI y) - 1), .int (nI i)]) (rest := []) ⟨hx, hb, hml, hown, hts⟩ (c_Y1_at l dC dI cI cJ h0 b1 b2 fl rc rl ps g t (nI y - 1) (nI i) (rf_in (rf_in_1 (by omega)) (rf_in_0 i) h3)) (cwV 2 hts gY1_guess_Y1_at rfl rfl rfl (by decide +kernel) ⟨Nat.le_of_ble_eq_true rfl, Nat.le_of_ble_eq_true rfl⟩) ⟨fun a U g mk q => by obtain ⟨q0, qP, qK⟩ := q; exact ⟨q0, qP, va_K.moved (u := U) (U := U.calling g mk a) (Vm.Alike.refl U.vm) qK⟩, va_recv hK hP (ci := 1) (q0 := 0) rfl rfl, fun U hU hW => ⟨rfl, by rw [hU]; exact hP, va_K.moved hW.alike hK⟩⟩ rfl rfl hl.1 rfl (lv_room (Nat.le_of_ble_eq_true rfl)) dY1_guess_18 ⟨Nat.zero_le _, Nat.zero_le _⟩) (fun b eb => ?_)
  rw [rf_z_b (by omega) (by omega) h3] at eb
  refine lv_istore hx hb dY1_guess_21 hl (by decide) rfl (fun ls hl => ?_)
  have hl : lv_has ls 11 [(5, .int b), (4, .int a), (0, .ref h0), (1, .int (nI y)), (2, .int (nI i)), (3, .int (nI q))] := hl
  refine lv_aload_n hx hb dY1_guess_23 rfl (lv_at hl 2 rfl) ?_
  refine lv_iload_n hx hb dY1_guess_24 rfl (lv_at hl 3 rfl) ?_
  refine lv_iconst (v := 1) hx hb dY1_guess_25 (by decide) ?_
  refine lv_isub hx hb dY1_guess_26 ?_
  refine lv_iload_n hx hb dY1_guess_27 rfl (lv_at hl 4 rfl) ?_
  refine lv_aload_n hx hb dY1_guess_28 rfl (lv_at hl 2 rfl) ?_
  refine va_get (D := (dC, dI)) (ci := 1) (v := .int (nI ps)) (C := RX1) (T := TY1) (N := 6) hx hb hts (by decide +kernel) hown hK hP 0 rfl rfl 3 (by decide) (hts (.fieldLink RX1 16 "RowFiltersModel" "step" "I") (by decide +kernel)) (fun _ h9 => h9) rfl dY1_guess_29 ?_
  refine lv_isub hx hb dY1_guess_32 ?_
  refine vp_callSi (W.runV (C := RX1) (As := [.int ((nI y) - 1), .int ((nI i) - (nI ps))]) (rest := []) ⟨hx, hb, hml, hown, hts⟩ (c_Y1_at l dC dI cI cJ h0 b1 b2 fl rc rl ps g t (nI y - 1) (nI i - nI ps) (rf_in (rf_in_1 (by omega)) (rf_in_p h4) h3)) (cwV 2 hts gY1_guess_Y1_at rfl rfl rfl (by decide +kernel) ⟨Nat.le_of_ble_eq_true rfl, Nat.le_of_ble_eq_true rfl⟩) ⟨fun a U g mk q => by obtain ⟨q0, qP, qK⟩ := q; exact ⟨q0, qP, va_K.moved (u := U) (U := U.calling g mk a) (Vm.Alike.refl U.vm) qK⟩, va_recv hK hP (ci := 1) (q0 := 0) rfl rfl, fun U hU hW => ⟨rfl, by rw [hU]; exact hP, va_K.moved hW.alike hK⟩⟩ rfl rfl hl.1 rfl (lv_room (Nat.le_of_ble_eq_true rfl)) dY1_guess_33 ⟨Nat.zero_le _, Nat.zero_le _⟩) (fun z ez => ?_)
  rw [rf_z_c (by omega) (by omega) h4 h3] at ez
  refine lv_istore hx hb dY1_guess_36 hl (by decide) rfl (fun ls hl => ?_)
  have hl : lv_has ls 11 [(6, .int z), (5, .int b), (4, .int a), (0, .ref h0), (1, .int (nI y)), (2, .int (nI i)), (3, .int (nI q))] := hl
  refine lv_iload_n hx hb dY1_guess_38 rfl (lv_at hl 6 rfl) ?_
  obtain rfl | rfl | rfl | rfl | rfl : q = 0 ∨ q = 1 ∨ q = 2 ∨ q = 3 ∨ q = 4 := by omega
  · refine lv_if_ne (tgt := 44) hx hb dY1_guess_39 (by decide) (fun h10 => ?_) (fun h10 => ?_)
    · exact absurd (by decide +kernel) h10
    · refine lv_iconst (v := 0) hx hb dY1_guess_42 (by decide) ?_
      exact W.iret (v := 0) hx hb hr (fun t ht hW => ⟨0, rfl, by simp [rf_g], ht⟩) (fun q h => by cases h) dY1_guess_43
  · refine lv_if_ne (tgt := 44) hx hb dY1_guess_39 (by decide) (fun h10 => ?_) (fun h10 => ?_)
    · refine lv_iload_n hx hb dY1_guess_44 rfl (lv_at hl 6 rfl) ?_
      refine lv_iconst (v := 1) hx hb dY1_guess_45 (by decide) ?_
      refine lv_icmp_ne (tgt := 52) hx hb dY1_guess_46 (by decide) (fun h11 => ?_) (fun h11 => ?_)
      · exact absurd rfl h11
      · refine lv_iload hx hb dY1_guess_49 (lv_at hl 2 rfl) ?_
        exact W.iret (v := a) hx hb hr (fun t ht hW => ⟨a, rfl, by rw [ea]; simp [rf_g], ht⟩) (fun q h => by cases h) dY1_guess_51
    · exact absurd h10 (by decide +kernel)
  · refine lv_if_ne (tgt := 44) hx hb dY1_guess_39 (by decide) (fun h10 => ?_) (fun h10 => ?_)
    · refine lv_iload_n hx hb dY1_guess_44 rfl (lv_at hl 6 rfl) ?_
      refine lv_iconst (v := 1) hx hb dY1_guess_45 (by decide) ?_
      refine lv_icmp_ne (tgt := 52) hx hb dY1_guess_46 (by decide) (fun h11 => ?_) (fun h11 => ?_)
      · refine lv_iload_n hx hb dY1_guess_52 rfl (lv_at hl 6 rfl) ?_
        refine lv_iconst (v := 2) hx hb dY1_guess_53 (by decide) ?_
        refine lv_icmp_ne (tgt := 60) hx hb dY1_guess_54 (by decide) (fun h12 => ?_) (fun h12 => ?_)
        · exact absurd rfl h12
        · refine lv_iload hx hb dY1_guess_57 (lv_at hl 1 rfl) ?_
          exact W.iret (v := b) hx hb hr (fun t ht hW => ⟨b, rfl, by rw [eb]; simp [rf_g], ht⟩) (fun q h => by cases h) dY1_guess_59
      · exact absurd h11 (by decide +kernel)
    · exact absurd h10 (by decide +kernel)
  · refine lv_if_ne (tgt := 44) hx hb dY1_guess_39 (by decide) (fun h10 => ?_) (fun h10 => ?_)
    · refine lv_iload_n hx hb dY1_guess_44 rfl (lv_at hl 6 rfl) ?_
      refine lv_iconst (v := 1) hx hb dY1_guess_45 (by decide) ?_
      refine lv_icmp_ne (tgt := 52) hx hb dY1_guess_46 (by decide) (fun h11 => ?_) (fun h11 => ?_)
      · refine lv_iload_n hx hb dY1_guess_52 rfl (lv_at hl 6 rfl) ?_
        refine lv_iconst (v := 2) hx hb dY1_guess_53 (by decide) ?_
        refine lv_icmp_ne (tgt := 60) hx hb dY1_guess_54 (by decide) (fun h12 => ?_) (fun h12 => ?_)
        · refine lv_iload_n hx hb dY1_guess_60 rfl (lv_at hl 6 rfl) ?_
          refine lv_iconst (v := 3) hx hb dY1_guess_61 (by decide) ?_
          refine lv_icmp_ne (tgt := 73) hx hb dY1_guess_62 (by decide) (fun h13 => ?_) (fun h13 => ?_)
          · exact absurd rfl h13
          · refine lv_iload hx hb dY1_guess_65 (lv_at hl 2 rfl) ?_
            refine lv_iload hx hb dY1_guess_67 (lv_at hl 1 rfl) ?_
            refine lv_iadd hx hb dY1_guess_69 ?_
            refine lv_iconst (v := 2) hx hb dY1_guess_70 (by decide) ?_
            refine lv_idiv hx hb dY1_guess_71 (by decide) ?_
            exact W.iret (v := ((a + b) / 2)) hx hb hr (fun t ht hW => ⟨((a + b) / 2), rfl, by rw [ea, eb]; simp [rf_g], ht⟩) (fun q h => by cases h) dY1_guess_72
        · exact absurd h12 (by decide +kernel)
      · exact absurd h11 (by decide +kernel)
    · exact absurd h10 (by decide +kernel)
  · refine lv_if_ne (tgt := 44) hx hb dY1_guess_39 (by decide) (fun h10 => ?_) (fun h10 => ?_)
    · refine lv_iload_n hx hb dY1_guess_44 rfl (lv_at hl 6 rfl) ?_
      refine lv_iconst (v := 1) hx hb dY1_guess_45 (by decide) ?_
      refine lv_icmp_ne (tgt := 52) hx hb dY1_guess_46 (by decide) (fun h11 => ?_) (fun h11 => ?_)
      · refine lv_iload_n hx hb dY1_guess_52 rfl (lv_at hl 6 rfl) ?_
        refine lv_iconst (v := 2) hx hb dY1_guess_53 (by decide) ?_
        refine lv_icmp_ne (tgt := 60) hx hb dY1_guess_54 (by decide) (fun h12 => ?_) (fun h12 => ?_)
        · refine lv_iload_n hx hb dY1_guess_60 rfl (lv_at hl 6 rfl) ?_
          refine lv_iconst (v := 3) hx hb dY1_guess_61 (by decide) ?_
          refine lv_icmp_ne (tgt := 73) hx hb dY1_guess_62 (by decide) (fun h13 => ?_) (fun h13 => ?_)
          · refine lv_iload hx hb dY1_guess_73 (lv_at hl 2 rfl) ?_
            refine lv_iload hx hb dY1_guess_75 (lv_at hl 1 rfl) ?_
            refine lv_iadd hx hb dY1_guess_77 ?_
            refine lv_iload hx hb dY1_guess_78 (lv_at hl 0 rfl) ?_
            refine lv_isub hx hb dY1_guess_80 ?_
            refine lv_istore hx hb dY1_guess_81 hl (by decide) rfl (fun ls hl => ?_)
            have hl : lv_has ls 11 [(7, .int ((a + b) - z)), (6, .int z), (5, .int b), (4, .int a), (0, .ref h0), (1, .int (nI y)), (2, .int (nI i)), (3, .int (nI 4))] := hl
            refine lv_iload hx hb dY1_guess_83 (lv_at hl 0 rfl) ?_
            refine lv_iload hx hb dY1_guess_85 (lv_at hl 3 rfl) ?_
            refine lv_isub hx hb dY1_guess_87 ?_
            refine va_mabs hx hb (hml.trans hl.1.symm) hown (hts (.methodLink RX1 41 Lib.Math.abs.name) (by decide +kernel)) (hts (.static Lib.Math.abs.name) (by decide +kernel)) (hts (.initialized "java/lang/Math") (by decide +kernel)) (hts (.code Lib.Math.abs.name Lib.Math.abs.code 1 (some .int)) (by decide +kernel)) (Nat.le_of_ble_eq_true rfl) (Nat.le_of_ble_eq_true rfl) (Nat.le_of_ble_eq_true rfl) (Nat.le_of_ble_eq_true rfl) dY1_guess_88 ?_
            refine lv_topi (fun fa efa => ?_)
            have efa : fa = rf_abs (a + b - z - a) := efa
            refine lv_istore hx hb dY1_guess_91 hl (by decide) rfl (fun ls hl => ?_)
            have hl : lv_has ls 11 [(8, .int fa), (7, .int ((a + b) - z)), (6, .int z), (5, .int b), (4, .int a), (0, .ref h0), (1, .int (nI y)), (2, .int (nI i)), (3, .int (nI 4))] := hl
            refine lv_iload hx hb dY1_guess_93 (lv_at hl 1 rfl) ?_
            refine lv_iload hx hb dY1_guess_95 (lv_at hl 3 rfl) ?_
            refine lv_isub hx hb dY1_guess_97 ?_
            refine va_mabs hx hb (hml.trans hl.1.symm) hown (hts (.methodLink RX1 41 Lib.Math.abs.name) (by decide +kernel)) (hts (.static Lib.Math.abs.name) (by decide +kernel)) (hts (.initialized "java/lang/Math") (by decide +kernel)) (hts (.code Lib.Math.abs.name Lib.Math.abs.code 1 (some .int)) (by decide +kernel)) (Nat.le_of_ble_eq_true rfl) (Nat.le_of_ble_eq_true rfl) (Nat.le_of_ble_eq_true rfl) (Nat.le_of_ble_eq_true rfl) dY1_guess_98 ?_
            refine lv_topi (fun fb efb => ?_)
            have efb : fb = rf_abs (a + b - z - b) := efb
            refine lv_istore hx hb dY1_guess_101 hl (by decide) rfl (fun ls hl => ?_)
            have hl : lv_has ls 11 [(9, .int fb), (8, .int fa), (7, .int ((a + b) - z)), (6, .int z), (5, .int b), (4, .int a), (0, .ref h0), (1, .int (nI y)), (2, .int (nI i)), (3, .int (nI 4))] := hl
            refine lv_iload hx hb dY1_guess_103 (lv_at hl 2 rfl) ?_
            refine lv_iload hx hb dY1_guess_105 (lv_at hl 3 rfl) ?_
            refine lv_isub hx hb dY1_guess_107 ?_
            refine va_mabs hx hb (hml.trans hl.1.symm) hown (hts (.methodLink RX1 41 Lib.Math.abs.name) (by decide +kernel)) (hts (.static Lib.Math.abs.name) (by decide +kernel)) (hts (.initialized "java/lang/Math") (by decide +kernel)) (hts (.code Lib.Math.abs.name Lib.Math.abs.code 1 (some .int)) (by decide +kernel)) (Nat.le_of_ble_eq_true rfl) (Nat.le_of_ble_eq_true rfl) (Nat.le_of_ble_eq_true rfl) (Nat.le_of_ble_eq_true rfl) dY1_guess_108 ?_
            refine lv_topi (fun fc efc => ?_)
            have efc : fc = rf_abs (a + b - z - z) := efc
            have e4 : rf_g g rl ps y i 4 = rf_near a b z := by rw [ea, eb, ez]; simp [rf_g]
            refine lv_istore hx hb dY1_guess_111 hl (by decide) rfl (fun ls hl => ?_)
            have hl : lv_has ls 11 [(10, .int fc), (9, .int fb), (8, .int fa), (7, .int ((a + b) - z)), (6, .int z), (5, .int b), (4, .int a), (0, .ref h0), (1, .int (nI y)), (2, .int (nI i)), (3, .int (nI 4))] := hl
            refine lv_iload hx hb dY1_guess_113 (lv_at hl 2 rfl) ?_
            refine lv_iload hx hb dY1_guess_115 (lv_at hl 1 rfl) ?_
            refine lv_icmp_gt (tgt := 132) hx hb dY1_guess_117 (by decide) (fun h1 => ?_) (fun h1 => ?_)
            · refine lv_iload hx hb dY1_guess_132 (lv_at hl 1 rfl) ?_
              refine lv_iload hx hb dY1_guess_134 (lv_at hl 0 rfl) ?_
              refine lv_icmp_gt (tgt := 144) hx hb dY1_guess_136 (by decide) (fun h3 => ?_) (fun h3 => ?_)
              · refine lv_iload hx hb dY1_guess_144 (lv_at hl 4 rfl) ?_
                exact W.iret (v := z) hx hb hr (fun t ht hW => ⟨z, rfl, by rw [e4]; unfold rf_near; rw [← efa, ← efb, ← efc]; rw [if_neg (fun q => absurd q.1 (Int32.not_le.mpr h1)), if_neg (Int32.not_le.mpr h3)], ht⟩) (fun q h => by cases h) dY1_guess_146
              · refine lv_iload hx hb dY1_guess_139 (lv_at hl 5 rfl) ?_
                refine lv_goto (tgt := 146) hx hb dY1_guess_141 (by decide) ?_
                exact W.iret (v := b) hx hb hr (fun t ht hW => ⟨b, rfl, by rw [e4]; unfold rf_near; rw [← efa, ← efb, ← efc]; rw [if_neg (fun q => absurd q.1 (Int32.not_le.mpr h1)), if_pos (Int32.not_lt.mp h3)], ht⟩) (fun q h => by cases h) dY1_guess_146
            · refine lv_iload hx hb dY1_guess_120 (lv_at hl 2 rfl) ?_
              refine lv_iload hx hb dY1_guess_122 (lv_at hl 0 rfl) ?_
              refine lv_icmp_gt (tgt := 132) hx hb dY1_guess_124 (by decide) (fun h2 => ?_) (fun h2 => ?_)
              · refine lv_iload hx hb dY1_guess_132 (lv_at hl 1 rfl) ?_
                refine lv_iload hx hb dY1_guess_134 (lv_at hl 0 rfl) ?_
                refine lv_icmp_gt (tgt := 144) hx hb dY1_guess_136 (by decide) (fun h3 => ?_) (fun h3 => ?_)
                · refine lv_iload hx hb dY1_guess_144 (lv_at hl 4 rfl) ?_
                  exact W.iret (v := z) hx hb hr (fun t ht hW => ⟨z, rfl, by rw [e4]; unfold rf_near; rw [← efa, ← efb, ← efc]; rw [if_neg (fun q => absurd q.2 (Int32.not_le.mpr h2)), if_neg (Int32.not_le.mpr h3)], ht⟩) (fun q h => by cases h) dY1_guess_146
                · refine lv_iload hx hb dY1_guess_139 (lv_at hl 5 rfl) ?_
                  refine lv_goto (tgt := 146) hx hb dY1_guess_141 (by decide) ?_
                  exact W.iret (v := b) hx hb hr (fun t ht hW => ⟨b, rfl, by rw [e4]; unfold rf_near; rw [← efa, ← efb, ← efc]; rw [if_neg (fun q => absurd q.2 (Int32.not_le.mpr h2)), if_pos (Int32.not_lt.mp h3)], ht⟩) (fun q h => by cases h) dY1_guess_146
              · refine lv_iload hx hb dY1_guess_127 (lv_at hl 6 rfl) ?_
                refine lv_goto (tgt := 146) hx hb dY1_guess_129 (by decide) ?_
                exact W.iret (v := a) hx hb hr (fun t ht hW => ⟨a, rfl, by rw [e4]; unfold rf_near; rw [← efa, ← efb, ← efc]; rw [if_pos ⟨Int32.not_lt.mp h1, Int32.not_lt.mp h2⟩], ht⟩) (fun q h => by cases h) dY1_guess_146
          · exact absurd h13 (by decide +kernel)
        · exact absurd h12 (by decide +kernel)
      · exact absurd h11 (by decide +kernel)
    · exact absurd h10 (by decide +kernel)
end
section
set_option maxHeartbeats 4000000 in
set_option maxRecDepth 100000 in
theorem c_Y1_tell (l : Launch) (dC : Nat → ClassId) (dI : Nat → Nat → Nat) (cI cJ : ClassId) (h0 b1 b2 : Nat) (fl : Int32) (rc rl ps : Nat) (g t : Nat → Int32) (sz : Nat) (y q : Nat) (ok : rf_ok rc rl ps) (hy : y < rc) (hq : q ≤ 4) : Met l yY1_tell wsY1_tell ({ frames := 2, cells := 0, slots := 0, locals := 52 }) (va_Pc [.ref h0, .int (nI y), .int (nI q)] (rv_preD dC dI cI cJ h0 b1 b2 fl rc rl ps g t sz)) (va_Qi (fun (r : Int32) (_ : Unit) => r = rf_s g rl ps y q rl) (fun _ t9 => rv_B dC dI cI cJ h0 b1 b2 fl rc rl ps g (rf_p t (rf_tv g rl ps y q) (y * rl) (y * rl + rl)) (va_A (rv_W h0 b1 b2 cI cJ fl rc rl ps g t) sz) t9) (va_A (rv_W h0 b1 b2 cI cJ fl rc rl ps g t) sz)) 0 0 (va_A (rv_W h0 b1 b2 cI cJ fl rc rl ps g t) sz) := by
  refine Met.ofW (cc := cY1_tell) (maxL := 6) (ret := (some .int)) (by decide) rfl ?_
  intro p e s m args below meth c s₁ B hml hv
  obtain ⟨rfl, hsz, hP, hK, hD0⟩ := hv
  have hx := B.exec
  have hb := B.bytes
  have hr := B.returns
  have hts := atoms_spec (ws := wsY1_tell) B.pre
  have hown : s.vm.findClass RX1 = some m.cls := findClass_of_methodNamed B.named
  have hlocks := B.notSynchronized
  subst hsz
  have hD := hD0.self (sz := s.heap.size)
  generalize hAe : va_A (rv_W h0 b1 b2 cI cJ fl rc rl ps g t) s.heap.size = A at hD ⊢
  have hA : ∀ q : Nat, s.heap.size ≤ q → A q := fun q h => by rw [← hAe]; exact Or.inr h
  have hS : va_S A s.heap s.heap [] := va_S.rf
  have hP : va_P (dC, dI) rw_cl (rv_W h0 b1 b2 cI cJ fl rc rl ps g t) s.heap := hP
  have hl := lv_entry ([.ref h0, .int (nI y), .int (nI q)]) (n := 6) (Nat.le_of_ble_eq_true rfl)
  rw [lg_entry_eq]
  generalize (lg_sl ([.ref h0, .int (nI y), .int (nI q)]) ++ List.replicate (6 - (lg_sl ([.ref h0, .int (nI y), .int (nI q)])).length) Slot.unset).toArray = ls at hl ⊢
  have hl : lv_has ls 6 [(0, .ref h0), (1, .int (nI y)), (2, .int (nI q))] := hl
  have h1 := ok.rc
  have h2 := ok.rl
  have h5 := rf_row rl hy
  have h6 := ok.2.2.1
  refine lv_iconst (v := 0) hx hb dY1_tell_0 (by decide) ?_
  refine lv_istore_n hx hb dY1_tell_1 rfl hl (by decide) rfl (fun ls hl => ?_)
  have hl : lv_has ls 6 [(3, .int 0), (0, .ref h0), (1, .int (nI y)), (2, .int (nI q))] := hl
  refine lv_iconst (v := 0) hx hb dY1_tell_2 (by decide) ?_
  refine lv_istore hx hb dY1_tell_3 hl (by decide) rfl (fun ls hl => ?_)
  have hl : lv_has ls 6 [(4, .int 0), (3, .int 0), (0, .ref h0), (1, .int (nI y)), (2, .int (nI q))] := hl
  have e0 : t = (rf_p t (rf_tv g rl ps y q) (y * rl) (y * rl + (0))) := (rf_p_nil _ _ _).symm
  rw [e0] at hP hD
  refine rw_loopH (fun i : Nat => rl - i) (fun i ls H locs => (i ≤ rl) ∧ lv_has ls 6 [(0, .ref h0), (1, .int (nI y)), (2, .int (nI q)), (3, .int (rf_s g rl ps y q i)), (4, .int (nI i))] ∧ va_P (dC, dI) rw_cl [(h0, .inr (1, [.int fl, .int (nI rc), .int (nI rl), .int (nI ps), .ref b1, .ref b2])), (b1, .inl (cI, 4096, .inl g)), (b2, .inl (cJ, 4096, .inl (rf_p t (rf_tv g rl ps y q) (y * rl) (y * rl + i))))] H ∧ va_D A [(h0, .inr (1, [.int fl, .int (nI rc), .int (nI rl), .int (nI ps), .ref b1, .ref b2])), (b1, .inl (cI, 4096, .inl g)), (b2, .inl (cJ, 4096, .inl (rf_p t (rf_tv g rl ps y q) (y * rl) (y * rl + i))))] ∧ va_S A s.heap H locs) ?_ (0) ⟨Nat.zero_le _, lv_sub hl [2, 3, 4, 1, 0] rfl, hP, hD, hS⟩
  intro i ls H locs hI ih
  obtain ⟨hj, hl, hP, hD, hS⟩ := hI
  refine lv_iload hx hb dY1_tell_5 (lv_at hl 4 rfl) ?_
  refine lv_aload_n hx hb dY1_tell_7 rfl (lv_at hl 0 rfl) ?_
  refine va_get (D := (dC, dI)) (ci := 1) (v := .int (nI rl)) (C := RX1) (T := TY1) (N := 6) hx hb hts (by decide +kernel) hown hK hP 0 rfl rfl 2 (by decide) (hts (.fieldLink RX1 13 "RowFiltersModel" "width" "I") (by decide +kernel)) (fun _ h9 => h9) rfl dY1_tell_8 ?_
  refine lv_icmp_ge (tgt := 87) hx hb dY1_tell_11 (by decide) (fun hc => ?_) (fun hc => ?_)
  · have hi : i = rl := by have := (nI_leI (by omega) (by omega)).mp hc; omega
    rw [hi] at hP hD hl
    have hl : lv_has ls 6 [(0, .ref h0), (1, .int (nI y)), (2, .int (nI q)), (3, .int (rf_s g rl ps y q rl)), (4, .int (nI rl))] := hl
    refine lv_iload_n hx hb dY1_tell_87 rfl (lv_at hl 3 rfl) ?_
    exact W.iret (v := (rf_s g rl ps y q rl)) hx hb hr (fun t ht hW => ⟨⟨(rf_s g rl ps y q rl), (), rfl, rfl, by rw [ht]; exact hP, va_K.moved hW.alike hK, hD⟩, hS.F ht⟩) hS.2.2 dY1_tell_88
  · have hi : i < rl := Nat.lt_of_not_le (fun q => hc ((nI_leI (by omega) (by omega)).mpr q))
    have h3 := ok.k hy hi
    refine lv_aload_n hx hb dY1_tell_14 rfl (lv_at hl 0 rfl) ?_
    refine va_get (D := (dC, dI)) (ci := 1) (v := .ref b1) (C := RX1) (T := TY1) (N := 6) hx hb hts (by decide +kernel) hown hK hP 0 rfl rfl 4 (by decide) (hts (.fieldLink RX1 19 "RowFiltersModel" "bytes" "[I") (by decide +kernel)) (fun _ h9 => h9) rfl dY1_tell_15 ?_
    refine lv_iload_n hx hb dY1_tell_18 rfl (lv_at hl 1 rfl) ?_
    refine lv_aload_n hx hb dY1_tell_19 rfl (lv_at hl 0 rfl) ?_
    refine va_get (D := (dC, dI)) (ci := 1) (v := .int (nI rl)) (C := RX1) (T := TY1) (N := 6) hx hb hts (by decide +kernel) hown hK hP 0 rfl rfl 2 (by decide) (hts (.fieldLink RX1 13 "RowFiltersModel" "width" "I") (by decide +kernel)) (fun _ h9 => h9) rfl dY1_tell_20 ?_
    refine lv_imul hx hb dY1_tell_23 ?_
    refine lv_iload hx hb dY1_tell_24 (lv_at hl 4 rfl) ?_
    refine lv_iadd hx hb dY1_tell_26 ?_
    refine W.eq (g2 := F0 m 27 ls [.int (nI (y * rl + i)), .ref b1]) (congrArg (fun z9 => F0 m 27 ls [.int z9, .ref b1]) (show (((nI y) * (nI rl)) + (nI i)) = nI (y * rl + i) from rf_ix y rl i)) ?_
    refine va_iald hx hb hK hP 1 0 rfl rfl (vp_in_nI h3 (by omega)) dY1_tell_27 ?_
    refine W.eq (g2 := F0 m 28 ls [.int (g (y * rl + i))]) (congrArg (fun z9 => F0 m 28 ls [.int z9]) (show (g (nI (y * rl + i)).toNatClampNeg) = g (y * rl + i) from by rw [nI_clamp (by omega)])) ?_
    refine lv_aload_n hx hb dY1_tell_28 rfl (lv_at hl 0 rfl) ?_
    refine lv_iload_n hx hb dY1_tell_29 rfl (lv_at hl 1 rfl) ?_
    refine lv_iload hx hb dY1_tell_30 (lv_at hl 4 rfl) ?_
    refine lv_iload_n hx hb dY1_tell_32 rfl (lv_at hl 2 rfl) ?_
    refine vp_callSi (W.runV (C := RX1) (As := [.int (nI y), .int (nI i), .int (nI q)]) (rest := [.int (g (y * rl + i))]) ⟨hx, hb, hml, hown, hts⟩ (c_Y1_guess l dC dI cI cJ h0 b1 b2 fl rc rl ps g (rf_p t (rf_tv g rl ps y q) (y * rl) (y * rl + i)) y i q ok hy hi hq) (cwV 3 hts gY1_tell_Y1_guess rfl rfl rfl (by decide +kernel) ⟨Nat.le_of_ble_eq_true rfl, Nat.le_of_ble_eq_true rfl⟩) ⟨fun a U g mk q => by obtain ⟨q0, qP, qK⟩ := q; exact ⟨q0, qP, va_K.moved (u := U) (U := U.calling g mk a) (Vm.Alike.refl U.vm) qK⟩, va_recv hK hP (ci := 1) (q0 := 0) rfl rfl, fun U hU hW => ⟨rfl, by rw [hU]; exact hP, va_K.moved hW.alike hK⟩⟩ rfl rfl hl.1 rfl (lv_room (Nat.le_of_ble_eq_true rfl)) dY1_tell_33 ⟨Nat.zero_le _, Nat.zero_le _⟩) (fun rg eg => ?_)
    refine lv_isub hx hb dY1_tell_36 ?_
    refine lv_sipush (v := 255) hx hb dY1_tell_37 (by decide) ?_
    refine lv_iand hx hb dY1_tell_40 ?_
    refine lv_topi (fun v ev => ?_)
    have ev : v = rf_t g rl ps y q i := by rw [ev, eg]; rfl
    refine lv_istore hx hb dY1_tell_41 hl (by decide) rfl (fun ls hl => ?_)
    have hl : lv_has ls 6 [(5, .int v), (0, .ref h0), (1, .int (nI y)), (2, .int (nI q)), (3, .int (rf_s g rl ps y q i)), (4, .int (nI i))] := hl
    refine lv_aload_n hx hb dY1_tell_43 rfl (lv_at hl 1 rfl) ?_
    refine va_get (D := (dC, dI)) (ci := 1) (v := .ref b2) (C := RX1) (T := TY1) (N := 6) hx hb hts (by decide +kernel) hown hK hP 0 rfl rfl 5 (by decide) (hts (.fieldLink RX1 23 "RowFiltersModel" "told" "[I") (by decide +kernel)) (fun _ h9 => h9) rfl dY1_tell_44 ?_
    refine lv_iload_n hx hb dY1_tell_47 rfl (lv_at hl 2 rfl) ?_
    refine lv_aload_n hx hb dY1_tell_48 rfl (lv_at hl 1 rfl) ?_
    refine va_get (D := (dC, dI)) (ci := 1) (v := .int (nI rl)) (C := RX1) (T := TY1) (N := 6) hx hb hts (by decide +kernel) hown hK hP 0 rfl rfl 2 (by decide) (hts (.fieldLink RX1 13 "RowFiltersModel" "width" "I") (by decide +kernel)) (fun _ h9 => h9) rfl dY1_tell_49 ?_
    refine lv_imul hx hb dY1_tell_52 ?_
    refine lv_iload hx hb dY1_tell_53 (lv_at hl 5 rfl) ?_
    refine lv_iadd hx hb dY1_tell_55 ?_
    refine W.eq (g2 := F0 m 56 ls [.int (nI (y * rl + i)), .ref b2]) (congrArg (fun z9 => F0 m 56 ls [.int z9, .ref b2]) (show (((nI y) * (nI rl)) + (nI i)) = nI (y * rl + i) from rf_ix y rl i)) ?_
    refine lv_iload hx hb dY1_tell_56 (lv_at hl 0 rfl) ?_
    refine va_iast hx hb hK hP hD hS 2 1 rfl rfl (vp_in_nI h3 (by omega)) dY1_tell_58 (fun H locs hP hD hS => ?_)
    have hP : va_P (dC, dI) rw_cl [(h0, .inr (1, [.int fl, .int (nI rc), .int (nI rl), .int (nI ps), .ref b1, .ref b2])), (b1, .inl (cI, 4096, .inl g)), (b2, .inl (cJ, 4096, .inl (upd (rf_p t (rf_tv g rl ps y q) (y * rl) (y * rl + i)) (nI (y * rl + i)).toNatClampNeg v)))] H := hP
    have hD : va_D A [(h0, .inr (1, [.int fl, .int (nI rc), .int (nI rl), .int (nI ps), .ref b1, .ref b2])), (b1, .inl (cI, 4096, .inl g)), (b2, .inl (cJ, 4096, .inl (upd (rf_p t (rf_tv g rl ps y q) (y * rl) (y * rl + i)) (nI (y * rl + i)).toNatClampNeg v)))] := hD
    refine lv_iload_n hx hb dY1_tell_59 rfl (lv_at hl 4 rfl) ?_
    refine lv_iload hx hb dY1_tell_60 (lv_at hl 0 rfl) ?_
    refine lv_sipush (v := 128) hx hb dY1_tell_62 (by decide) ?_
    refine lv_icmp_ge (tgt := 73) hx hb dY1_tell_65 (by decide) (fun hv => ?_) (fun hv => ?_)
    · refine lv_sipush (v := 256) hx hb dY1_tell_73 (by decide) ?_
      refine lv_iload hx hb dY1_tell_76 (lv_at hl 0 rfl) ?_
      refine lv_isub hx hb dY1_tell_78 ?_
      refine lv_iadd hx hb dY1_tell_79 ?_
      refine lv_istore_n hx hb dY1_tell_80 rfl hl (by decide) rfl (fun ls hl => ?_)
      have hl : lv_has ls 6 [(3, .int ((rf_s g rl ps y q i) + (256 - v))), (5, .int v), (0, .ref h0), (1, .int (nI y)), (2, .int (nI q)), (4, .int (nI i))] := hl
      refine lv_iinc (k := 5) (v := (nI (i + 1))) hx hb dY1_tell_81 hl rfl (rf_inc i) (by decide) rfl (fun ls hl => ?_)
      have hl : lv_has ls 6 [(4, .int (nI (i + 1))), (3, .int ((rf_s g rl ps y q i) + (256 - v))), (5, .int v), (0, .ref h0), (1, .int (nI y)), (2, .int (nI q))] := hl
      refine lv_goto (tgt := 5) hx hb dY1_tell_84 (by decide) ?_
      have e9 : rf_s g rl ps y q (i + 1) = ((rf_s g rl ps y q i) + (256 - v)) := by show rf_s g rl ps y q i + rf_m (rf_t g rl ps y q i) = _; rw [← ev, rf_m, if_neg (Int32.not_lt.mpr hv)]
      rw [← e9] at hl
      have e9 : (upd (rf_p t (rf_tv g rl ps y q) (y * rl) (y * rl + i)) (nI (y * rl + i)).toNatClampNeg v) = (rf_p t (rf_tv g rl ps y q) (y * rl) (y * rl + (i + 1))) := by rw [nI_clamp (by omega)]; exact rf_p_up (lo := y * rl) (hi := y * rl + i) (by omega) (by rw [ev]; unfold rf_tv; rw [Nat.add_sub_cancel_left])
      rw [e9] at hP hD
      exact ih (i + 1) _ _ _ (by show rl - (i + 1) < rl - i; omega) ⟨by omega, lv_sub hl [3, 4, 5, 1, 0] rfl, hP, hD, hS⟩
    · refine lv_iload hx hb dY1_tell_68 (lv_at hl 0 rfl) ?_
      refine lv_goto (tgt := 79) hx hb dY1_tell_70 (by decide) ?_
      refine lv_iadd hx hb dY1_tell_79 ?_
      refine lv_istore_n hx hb dY1_tell_80 rfl hl (by decide) rfl (fun ls hl => ?_)
      have hl : lv_has ls 6 [(3, .int ((rf_s g rl ps y q i) + v)), (5, .int v), (0, .ref h0), (1, .int (nI y)), (2, .int (nI q)), (4, .int (nI i))] := hl
      refine lv_iinc (k := 5) (v := (nI (i + 1))) hx hb dY1_tell_81 hl rfl (rf_inc i) (by decide) rfl (fun ls hl => ?_)
      have hl : lv_has ls 6 [(4, .int (nI (i + 1))), (3, .int ((rf_s g rl ps y q i) + v)), (5, .int v), (0, .ref h0), (1, .int (nI y)), (2, .int (nI q))] := hl
      refine lv_goto (tgt := 5) hx hb dY1_tell_84 (by decide) ?_
      have e9 : rf_s g rl ps y q (i + 1) = ((rf_s g rl ps y q i) + v) := by show rf_s g rl ps y q i + rf_m (rf_t g rl ps y q i) = _; rw [← ev, rf_m, if_pos (Int32.not_le.mp hv)]
      rw [← e9] at hl
      have e9 : (upd (rf_p t (rf_tv g rl ps y q) (y * rl) (y * rl + i)) (nI (y * rl + i)).toNatClampNeg v) = (rf_p t (rf_tv g rl ps y q) (y * rl) (y * rl + (i + 1))) := by rw [nI_clamp (by omega)]; exact rf_p_up (lo := y * rl) (hi := y * rl + i) (by omega) (by rw [ev]; unfold rf_tv; rw [Nat.add_sub_cancel_left])
      rw [e9] at hP hD
      exact ih (i + 1) _ _ _ (by show rl - (i + 1) < rl - i; omega) ⟨by omega, lv_sub hl [3, 4, 5, 1, 0] rfl, hP, hD, hS⟩
set_option maxHeartbeats 4000000 in
set_option maxRecDepth 100000 in
theorem c_Y1_untell (l : Launch) (dC : Nat → ClassId) (dI : Nat → Nat → Nat) (cI cJ : ClassId) (h0 b1 b2 : Nat) (fl : Int32) (rc rl ps : Nat) (g t : Nat → Int32) (sz : Nat) (y q : Nat) (ok : rf_ok rc rl ps) (hy : y < rc) (hq : q ≤ 4) : Met l yY1_untell wsY1_untell ({ frames := 2, cells := 0, slots := 0, locals := 52 }) (va_Pc [.ref h0, .int (nI y), .int (nI q)] (rv_preD dC dI cI cJ h0 b1 b2 fl rc rl ps g t sz)) (va_Qv (fun _ : Unit => True) (fun _ t9 => rv_B dC dI cI cJ h0 b1 b2 fl rc rl ps (rf_U g rl ps y q rl) t (va_A (rv_W h0 b1 b2 cI cJ fl rc rl ps g t) sz) t9) (va_A (rv_W h0 b1 b2 cI cJ fl rc rl ps g t) sz)) 0 0 (va_A (rv_W h0 b1 b2 cI cJ fl rc rl ps g t) sz) := by
  refine Met.ofW (cc := cY1_untell) (maxL := 4) (ret := none) (by decide) rfl ?_
  intro p e s m args below meth c s₁ B hml hv
  obtain ⟨rfl, hsz, hP, hK, hD0⟩ := hv
  have hx := B.exec
  have hb := B.bytes
  have hr := B.returns
  have hts := atoms_spec (ws := wsY1_untell) B.pre
  have hown : s.vm.findClass RX1 = some m.cls := findClass_of_methodNamed B.named
  have hlocks := B.notSynchronized
  subst hsz
  have hD := hD0.self (sz := s.heap.size)
  generalize hAe : va_A (rv_W h0 b1 b2 cI cJ fl rc rl ps g t) s.heap.size = A at hD ⊢
  have hA : ∀ q : Nat, s.heap.size ≤ q → A q := fun q h => by rw [← hAe]; exact Or.inr h
  have hS : va_S A s.heap s.heap [] := va_S.rf
  have hP : va_P (dC, dI) rw_cl (rv_W h0 b1 b2 cI cJ fl rc rl ps g t) s.heap := hP
  have hl := lv_entry ([.ref h0, .int (nI y), .int (nI q)]) (n := 4) (Nat.le_of_ble_eq_true rfl)
  rw [lg_entry_eq]
  generalize (lg_sl ([.ref h0, .int (nI y), .int (nI q)]) ++ List.replicate (4 - (lg_sl ([.ref h0, .int (nI y), .int (nI q)])).length) Slot.unset).toArray = ls at hl ⊢
  have hl : lv_has ls 4 [(0, .ref h0), (1, .int (nI y)), (2, .int (nI q))] := hl
  have h1 := ok.rc
  have h2 := ok.rl
  have h5 := rf_row rl hy
  have h6 := ok.2.2.1
  refine lv_iconst (v := 0) hx hb dY1_untell_0 (by decide) ?_
  refine lv_istore_n hx hb dY1_untell_1 rfl hl (by decide) rfl (fun ls hl => ?_)
  have hl : lv_has ls 4 [(3, .int 0), (0, .ref h0), (1, .int (nI y)), (2, .int (nI q))] := hl
  have e0 : g = (rf_U g rl ps y q (0)) := rfl
  rw [e0] at hP hD
  refine rw_loopH (fun z : Nat => rl - z) (fun z ls H locs => (z ≤ rl) ∧ lv_has ls 4 [(0, .ref h0), (1, .int (nI y)), (2, .int (nI q)), (3, .int (nI z))] ∧ va_P (dC, dI) rw_cl [(h0, .inr (1, [.int fl, .int (nI rc), .int (nI rl), .int (nI ps), .ref b1, .ref b2])), (b1, .inl (cI, 4096, .inl (rf_U g rl ps y q z))), (b2, .inl (cJ, 4096, .inl t))] H ∧ va_D A [(h0, .inr (1, [.int fl, .int (nI rc), .int (nI rl), .int (nI ps), .ref b1, .ref b2])), (b1, .inl (cI, 4096, .inl (rf_U g rl ps y q z))), (b2, .inl (cJ, 4096, .inl t))] ∧ va_S A s.heap H locs) ?_ (0) ⟨Nat.zero_le _, lv_sub hl [1, 2, 3, 0] rfl, hP, hD, hS⟩
  intro z ls H locs hI ih
  obtain ⟨hj, hl, hP, hD, hS⟩ := hI
  refine lv_iload_n hx hb dY1_untell_2 rfl (lv_at hl 3 rfl) ?_
  refine lv_aload_n hx hb dY1_untell_3 rfl (lv_at hl 0 rfl) ?_
  refine va_get (D := (dC, dI)) (ci := 1) (v := .int (nI rl)) (C := RX1) (T := TY1) (N := 6) hx hb hts (by decide +kernel) hown hK hP 0 rfl rfl 2 (by decide) (hts (.fieldLink RX1 13 "RowFiltersModel" "width" "I") (by decide +kernel)) (fun _ h9 => h9) rfl dY1_untell_4 ?_
  refine lv_icmp_ge (tgt := 54) hx hb dY1_untell_7 (by decide) (fun hc => ?_) (fun hc => ?_)
  · have hi : z = rl := by have := (nI_leI (by omega) (by omega)).mp hc; omega
    rw [hi] at hP hD
    exact W.vret hx hb hr (fun t ht hW => ⟨⟨(), rfl, trivial, by rw [ht]; exact hP, va_K.moved hW.alike hK, hD⟩, hS.F ht⟩) hS.2.2 dY1_untell_54
  · have hi : z < rl := Nat.lt_of_not_le (fun q => hc ((nI_leI (by omega) (by omega)).mpr q))
    have h3 := ok.k hy hi
    refine lv_aload_n hx hb dY1_untell_10 rfl (lv_at hl 0 rfl) ?_
    refine va_get (D := (dC, dI)) (ci := 1) (v := .ref b1) (C := RX1) (T := TY1) (N := 6) hx hb hts (by decide +kernel) hown hK hP 0 rfl rfl 4 (by decide) (hts (.fieldLink RX1 19 "RowFiltersModel" "bytes" "[I") (by decide +kernel)) (fun _ h9 => h9) rfl dY1_untell_11 ?_
    refine lv_iload_n hx hb dY1_untell_14 rfl (lv_at hl 1 rfl) ?_
    refine lv_aload_n hx hb dY1_untell_15 rfl (lv_at hl 0 rfl) ?_
    refine va_get (D := (dC, dI)) (ci := 1) (v := .int (nI rl)) (C := RX1) (T := TY1) (N := 6) hx hb hts (by decide +kernel) hown hK hP 0 rfl rfl 2 (by decide) (hts (.fieldLink RX1 13 "RowFiltersModel" "width" "I") (by decide +kernel)) (fun _ h9 => h9) rfl dY1_untell_16 ?_
    refine lv_imul hx hb dY1_untell_19 ?_
    refine lv_iload_n hx hb dY1_untell_20 rfl (lv_at hl 3 rfl) ?_
    refine lv_iadd hx hb dY1_untell_21 ?_
    refine W.eq (g2 := F0 m 22 ls [.int (nI (y * rl + z)), .ref b1]) (congrArg (fun z9 => F0 m 22 ls [.int z9, .ref b1]) (show (((nI y) * (nI rl)) + (nI z)) = nI (y * rl + z) from rf_ix y rl z)) ?_
    refine lv_aload_n hx hb dY1_untell_22 rfl (lv_at hl 0 rfl) ?_
    refine va_get (D := (dC, dI)) (ci := 1) (v := .ref b1) (C := RX1) (T := TY1) (N := 6) hx hb hts (by decide +kernel) hown hK hP 0 rfl rfl 4 (by decide) (hts (.fieldLink RX1 19 "RowFiltersModel" "bytes" "[I") (by decide +kernel)) (fun _ h9 => h9) rfl dY1_untell_23 ?_
    refine lv_iload_n hx hb dY1_untell_26 rfl (lv_at hl 1 rfl) ?_
    refine lv_aload_n hx hb dY1_untell_27 rfl (lv_at hl 0 rfl) ?_
    refine va_get (D := (dC, dI)) (ci := 1) (v := .int (nI rl)) (C := RX1) (T := TY1) (N := 6) hx hb hts (by decide +kernel) hown hK hP 0 rfl rfl 2 (by decide) (hts (.fieldLink RX1 13 "RowFiltersModel" "width" "I") (by decide +kernel)) (fun _ h9 => h9) rfl dY1_untell_28 ?_
    refine lv_imul hx hb dY1_untell_31 ?_
    refine lv_iload_n hx hb dY1_untell_32 rfl (lv_at hl 3 rfl) ?_
    refine lv_iadd hx hb dY1_untell_33 ?_
    refine W.eq (g2 := F0 m 34 ls [.int (nI (y * rl + z)), .ref b1, .int (nI (y * rl + z)), .ref b1]) (congrArg (fun z9 => F0 m 34 ls [.int z9, .ref b1, .int (nI (y * rl + z)), .ref b1]) (show (((nI y) * (nI rl)) + (nI z)) = nI (y * rl + z) from rf_ix y rl z)) ?_
    refine va_iald hx hb hK hP 1 0 rfl rfl (vp_in_nI h3 (by omega)) dY1_untell_34 ?_
    refine W.eq (g2 := F0 m 35 ls [.int ((rf_U g rl ps y q z) (y * rl + z)), .int (nI (y * rl + z)), .ref b1]) (congrArg (fun z9 => F0 m 35 ls [.int z9, .int (nI (y * rl + z)), .ref b1]) (show ((rf_U g rl ps y q z) (nI (y * rl + z)).toNatClampNeg) = ((rf_U g rl ps y q z) (y * rl + z)) from by rw [nI_clamp (by omega)])) ?_
    refine lv_aload_n hx hb dY1_untell_35 rfl (lv_at hl 0 rfl) ?_
    refine lv_iload_n hx hb dY1_untell_36 rfl (lv_at hl 1 rfl) ?_
    refine lv_iload_n hx hb dY1_untell_37 rfl (lv_at hl 3 rfl) ?_
    refine lv_iload_n hx hb dY1_untell_38 rfl (lv_at hl 2 rfl) ?_
    refine vp_callSi (W.runV (C := RX1) (As := [.int (nI y), .int (nI z), .int (nI q)]) (rest := [.int ((rf_U g rl ps y q z) (y * rl + z)), .int (nI (y * rl + z)), .ref b1]) ⟨hx, hb, hml, hown, hts⟩ (c_Y1_guess l dC dI cI cJ h0 b1 b2 fl rc rl ps (rf_U g rl ps y q z) t y z q ok hy hi hq) (cwV 3 hts gY1_untell_Y1_guess rfl rfl rfl (by decide +kernel) ⟨Nat.le_of_ble_eq_true rfl, Nat.le_of_ble_eq_true rfl⟩) ⟨fun a U g mk q => by obtain ⟨q0, qP, qK⟩ := q; exact ⟨q0, qP, va_K.moved (u := U) (U := U.calling g mk a) (Vm.Alike.refl U.vm) qK⟩, va_recv hK hP (ci := 1) (q0 := 0) rfl rfl, fun U hU hW => ⟨rfl, by rw [hU]; exact hP, va_K.moved hW.alike hK⟩⟩ rfl rfl hl.1 rfl (lv_room (Nat.le_of_ble_eq_true rfl)) dY1_untell_39 ⟨Nat.zero_le _, Nat.zero_le _⟩) (fun rg eg => ?_)
    refine lv_iadd hx hb dY1_untell_42 ?_
    refine lv_sipush (v := 255) hx hb dY1_untell_43 (by decide) ?_
    refine lv_iand hx hb dY1_untell_46 ?_
    refine va_iast hx hb hK hP hD hS 1 0 rfl rfl (vp_in_nI h3 (by omega)) dY1_untell_47 (fun H locs hP hD hS => ?_)
    have hP : va_P (dC, dI) rw_cl [(h0, .inr (1, [.int fl, .int (nI rc), .int (nI rl), .int (nI ps), .ref b1, .ref b2])), (b1, .inl (cI, 4096, .inl (upd (rf_U g rl ps y q z) (nI (y * rl + z)).toNatClampNeg ((((rf_U g rl ps y q z) (y * rl + z)) + rg) &&& 255)))), (b2, .inl (cJ, 4096, .inl t))] H := hP
    have hD : va_D A [(h0, .inr (1, [.int fl, .int (nI rc), .int (nI rl), .int (nI ps), .ref b1, .ref b2])), (b1, .inl (cI, 4096, .inl (upd (rf_U g rl ps y q z) (nI (y * rl + z)).toNatClampNeg ((((rf_U g rl ps y q z) (y * rl + z)) + rg) &&& 255)))), (b2, .inl (cJ, 4096, .inl t))] := hD
    refine lv_iinc (k := 3) (v := (nI (z + 1))) hx hb dY1_untell_48 hl rfl (rf_inc z) (by decide) rfl (fun ls hl => ?_)
    have hl : lv_has ls 4 [(3, .int (nI (z + 1))), (0, .ref h0), (1, .int (nI y)), (2, .int (nI q))] := hl
    refine lv_goto (tgt := 2) hx hb dY1_untell_51 (by decide) ?_
    have e9 : (upd (rf_U g rl ps y q z) (nI (y * rl + z)).toNatClampNeg ((((rf_U g rl ps y q z) (y * rl + z)) + rg) &&& 255)) = (rf_U g rl ps y q (z + 1)) := by rw [nI_clamp (by omega), eg]; rfl
    rw [e9] at hP hD
    exact ih (z + 1) _ _ _ (by show rl - (z + 1) < rl - z; omega) ⟨by omega, lv_sub hl [1, 2, 3, 0] rfl, hP, hD, hS⟩
end
section
set_option maxHeartbeats 4000000 in
set_option maxRecDepth 100000 in
theorem c_Y1_out (l : Launch) (dC : Nat → ClassId) (dI : Nat → Nat → Nat) (cI cJ : ClassId) (h0 b1 b2 : Nat) (fl : Int32) (rc rl ps : Nat) (g t : Nat → Int32) (y i : Int32) : Met l yY1_out wsY1_out ({ frames := 0, cells := 0, slots := 0, locals := 0 }) (va_Pc [.ref h0, .int y, .int i] (rv_pre dC dI cI cJ h0 b1 b2 fl rc rl ps g t)) (vp_Si (fun r => (rf_ot rc rl y i → r = 1) ∧ (¬ rf_ot rc rl y i → r = 0))) 0 0 (fun _ => False) := by
  refine Met.ofW (cc := cY1_out) (maxL := 3) (ret := (some .boolean)) (by decide) rfl ?_
  intro p e s m args below meth c s₁ B hml hv
  obtain ⟨rfl, hP, hK⟩ := hv
  have hx := B.exec
  have hb := B.bytes
  have hr := B.returns
  have hts := atoms_spec (ws := wsY1_out) B.pre
  have hown : s.vm.findClass RX1 = some m.cls := findClass_of_methodNamed B.named
  have hlocks := B.notSynchronized
  have hP : va_P (dC, dI) rw_cl (rv_W h0 b1 b2 cI cJ fl rc rl ps g t) s.heap := hP
  have hl := lv_entry ([.ref h0, .int y, .int i]) (n := 3) (Nat.le_of_ble_eq_true rfl)
  rw [lg_entry_eq]
  generalize (lg_sl ([.ref h0, .int y, .int i]) ++ List.replicate (3 - (lg_sl ([.ref h0, .int y, .int i])).length) Slot.unset).toArray = ls at hl ⊢
  have hl : lv_has ls 3 [(0, .ref h0), (1, .int y), (2, .int i)] := hl
  refine lv_iload_n hx hb dY1_out_0 rfl (lv_at hl 1 rfl) ?_
  refine lv_if_lt (tgt := 24) hx hb dY1_out_1 (by decide) (fun q0 => ?_) (fun q0 => ?_)
  · refine lv_iconst (v := 1) hx hb dY1_out_24 (by decide) ?_
    refine lv_goto (tgt := 29) hx hb dY1_out_25 (by decide) ?_
    exact W.zret (v := 1) hx hb hr rfl (fun t ht hW => ⟨1, rfl, ⟨fun _ => rfl, fun q => absurd (Or.inl q0) q⟩, ht⟩) (fun q h => by cases h) dY1_out_29
  · refine lv_iload_n hx hb dY1_out_4 rfl (lv_at hl 1 rfl) ?_
    refine lv_aload_n hx hb dY1_out_5 rfl (lv_at hl 0 rfl) ?_
    refine va_get (D := (dC, dI)) (ci := 1) (v := .int (nI rc)) (C := RX1) (T := TY1) (N := 6) hx hb hts (by decide +kernel) hown hK hP 0 rfl rfl 1 (by decide) (hts (.fieldLink RX1 7 "RowFiltersModel" "height" "I") (by decide +kernel)) (fun _ h9 => h9) rfl dY1_out_6 ?_
    refine lv_icmp_ge (tgt := 24) hx hb dY1_out_9 (by decide) (fun q1 => ?_) (fun q1 => ?_)
    · refine lv_iconst (v := 1) hx hb dY1_out_24 (by decide) ?_
      refine lv_goto (tgt := 29) hx hb dY1_out_25 (by decide) ?_
      exact W.zret (v := 1) hx hb hr rfl (fun t ht hW => ⟨1, rfl, ⟨fun _ => rfl, fun q => absurd (Or.inr (Or.inl q1)) q⟩, ht⟩) (fun q h => by cases h) dY1_out_29
    · refine lv_iload_n hx hb dY1_out_12 rfl (lv_at hl 2 rfl) ?_
      refine lv_if_lt (tgt := 24) hx hb dY1_out_13 (by decide) (fun q2 => ?_) (fun q2 => ?_)
      · refine lv_iconst (v := 1) hx hb dY1_out_24 (by decide) ?_
        refine lv_goto (tgt := 29) hx hb dY1_out_25 (by decide) ?_
        exact W.zret (v := 1) hx hb hr rfl (fun t ht hW => ⟨1, rfl, ⟨fun _ => rfl, fun q => absurd (Or.inr (Or.inr (Or.inl q2))) q⟩, ht⟩) (fun q h => by cases h) dY1_out_29
      · refine lv_iload_n hx hb dY1_out_16 rfl (lv_at hl 2 rfl) ?_
        refine lv_aload_n hx hb dY1_out_17 rfl (lv_at hl 0 rfl) ?_
        refine va_get (D := (dC, dI)) (ci := 1) (v := .int (nI rl)) (C := RX1) (T := TY1) (N := 6) hx hb hts (by decide +kernel) hown hK hP 0 rfl rfl 2 (by decide) (hts (.fieldLink RX1 13 "RowFiltersModel" "width" "I") (by decide +kernel)) (fun _ h9 => h9) rfl dY1_out_18 ?_
        refine lv_icmp_lt (tgt := 28) hx hb dY1_out_21 (by decide) (fun q3 => ?_) (fun q3 => ?_)
        · refine lv_iconst (v := 0) hx hb dY1_out_28 (by decide) ?_
          have hno : ¬ rf_ot rc rl y i := by
            rintro (z | z | z | z)
            · exact absurd z q0
            · exact absurd z q1
            · exact absurd z q2
            · exact absurd z (Int32.not_le.mpr q3)
          exact W.zret (v := 0) hx hb hr rfl (fun t ht hW => ⟨0, rfl, ⟨fun z => absurd z hno, fun _ => rfl⟩, ht⟩) (fun q h => by cases h) dY1_out_29
        · refine lv_iconst (v := 1) hx hb dY1_out_24 (by decide) ?_
          refine lv_goto (tgt := 29) hx hb dY1_out_25 (by decide) ?_
          exact W.zret (v := 1) hx hb hr rfl (fun t ht hW => ⟨1, rfl, ⟨fun _ => rfl, fun q => absurd (Or.inr (Or.inr (Or.inr ((Int32.not_lt.mp q3))))) q⟩, ht⟩) (fun q h => by cases h) dY1_out_29
set_option maxHeartbeats 4000000 in
set_option maxRecDepth 100000 in
theorem c_Y1_bad (l : Launch) (dC : Nat → ClassId) (dI : Nat → Nat → Nat) (cI cJ : ClassId) (h0 b1 b2 : Nat) (fl : Int32) (rc rl ps : Nat) (g t : Nat → Int32) (y i : Int32) : Met l yY1_bad wsY1_bad ({ frames := 0, cells := 0, slots := 0, locals := 0 }) (va_Pc [.ref h0, .int y, .int i] (rv_pre dC dI cI cJ h0 b1 b2 fl rc rl ps g t)) (vp_Si (fun r => (rf_bd rc y i → r = 1) ∧ (¬ rf_bd rc y i → r = 0))) 0 0 (fun _ => False) := by
  refine Met.ofW (cc := cY1_bad) (maxL := 3) (ret := (some .boolean)) (by decide) rfl ?_
  intro p e s m args below meth c s₁ B hml hv
  obtain ⟨rfl, hP, hK⟩ := hv
  have hx := B.exec
  have hb := B.bytes
  have hr := B.returns
  have hts := atoms_spec (ws := wsY1_bad) B.pre
  have hown : s.vm.findClass RX1 = some m.cls := findClass_of_methodNamed B.named
  have hlocks := B.notSynchronized
  have hP : va_P (dC, dI) rw_cl (rv_W h0 b1 b2 cI cJ fl rc rl ps g t) s.heap := hP
  have hl := lv_entry ([.ref h0, .int y, .int i]) (n := 3) (Nat.le_of_ble_eq_true rfl)
  rw [lg_entry_eq]
  generalize (lg_sl ([.ref h0, .int y, .int i]) ++ List.replicate (3 - (lg_sl ([.ref h0, .int y, .int i])).length) Slot.unset).toArray = ls at hl ⊢
  have hl : lv_has ls 3 [(0, .ref h0), (1, .int y), (2, .int i)] := hl
  refine lv_iload_n hx hb dY1_bad_0 rfl (lv_at hl 1 rfl) ?_
  refine lv_if_lt (tgt := 21) hx hb dY1_bad_1 (by decide) (fun q0 => ?_) (fun q0 => ?_)
  · refine lv_iconst (v := 1) hx hb dY1_bad_21 (by decide) ?_
    refine lv_goto (tgt := 26) hx hb dY1_bad_22 (by decide) ?_
    exact W.zret (v := 1) hx hb hr rfl (fun t ht hW => ⟨1, rfl, ⟨fun _ => rfl, fun q => absurd (Or.inl q0) q⟩, ht⟩) (fun q h => by cases h) dY1_bad_26
  · refine lv_iload_n hx hb dY1_bad_4 rfl (lv_at hl 1 rfl) ?_
    refine lv_aload_n hx hb dY1_bad_5 rfl (lv_at hl 0 rfl) ?_
    refine va_get (D := (dC, dI)) (ci := 1) (v := .int (nI rc)) (C := RX1) (T := TY1) (N := 6) hx hb hts (by decide +kernel) hown hK hP 0 rfl rfl 1 (by decide) (hts (.fieldLink RX1 7 "RowFiltersModel" "height" "I") (by decide +kernel)) (fun _ h9 => h9) rfl dY1_bad_6 ?_
    refine lv_icmp_ge (tgt := 21) hx hb dY1_bad_9 (by decide) (fun q1 => ?_) (fun q1 => ?_)
    · refine lv_iconst (v := 1) hx hb dY1_bad_21 (by decide) ?_
      refine lv_goto (tgt := 26) hx hb dY1_bad_22 (by decide) ?_
      exact W.zret (v := 1) hx hb hr rfl (fun t ht hW => ⟨1, rfl, ⟨fun _ => rfl, fun q => absurd (Or.inr (Or.inl q1)) q⟩, ht⟩) (fun q h => by cases h) dY1_bad_26
    · refine lv_iload_n hx hb dY1_bad_12 rfl (lv_at hl 2 rfl) ?_
      refine lv_if_lt (tgt := 21) hx hb dY1_bad_13 (by decide) (fun q2 => ?_) (fun q2 => ?_)
      · refine lv_iconst (v := 1) hx hb dY1_bad_21 (by decide) ?_
        refine lv_goto (tgt := 26) hx hb dY1_bad_22 (by decide) ?_
        exact W.zret (v := 1) hx hb hr rfl (fun t ht hW => ⟨1, rfl, ⟨fun _ => rfl, fun q => absurd (Or.inr (Or.inr (Or.inl q2))) q⟩, ht⟩) (fun q h => by cases h) dY1_bad_26
      · refine lv_iload_n hx hb dY1_bad_16 rfl (lv_at hl 2 rfl) ?_
        refine lv_iconst (v := 4) hx hb dY1_bad_17 (by decide) ?_
        refine lv_icmp_le (tgt := 25) hx hb dY1_bad_18 (by decide) (fun q3 => ?_) (fun q3 => ?_)
        · refine lv_iconst (v := 0) hx hb dY1_bad_25 (by decide) ?_
          have hno : ¬ rf_bd rc y i := by
            rintro (z | z | z | z)
            · exact absurd z q0
            · exact absurd z q1
            · exact absurd z q2
            · exact absurd z (Int32.not_lt.mpr q3)
          exact W.zret (v := 0) hx hb hr rfl (fun t ht hW => ⟨0, rfl, ⟨fun z => absurd z hno, fun _ => rfl⟩, ht⟩) (fun q h => by cases h) dY1_bad_26
        · refine lv_iconst (v := 1) hx hb dY1_bad_21 (by decide) ?_
          refine lv_goto (tgt := 26) hx hb dY1_bad_22 (by decide) ?_
          exact W.zret (v := 1) hx hb hr rfl (fun t ht hW => ⟨1, rfl, ⟨fun _ => rfl, fun q => absurd (Or.inr (Or.inr (Or.inr ((Int32.not_le.mp q3))))) q⟩, ht⟩) (fun q h => by cases h) dY1_bad_26
end
section
set_option maxHeartbeats 4000000 in
set_option maxRecDepth 100000 in
theorem c_Y1_get (l : Launch) (dC : Nat → ClassId) (dI : Nat → Nat → Nat) (cI cJ : ClassId) (h0 b1 b2 : Nat) (fl : Int32) (rc rl ps : Nat) (g t : Nat → Int32) (sz : Nat) (y i : Nat) (ok : rf_ok rc rl ps) (hy : y < rc) (hi : i < rl) : Met l yY1_get wsY1_get ({ frames := 1, cells := 0, slots := 0, locals := 22 }) (va_Pc [.ref h0, .int (nI y), .int (nI i)] (rv_preD dC dI cI cJ h0 b1 b2 fl rc rl ps g t sz)) (va_Qi (fun (r : Int32) (_ : Unit) => r = g (y * rl + i)) (fun _ t9 => rv_B dC dI cI cJ h0 b1 b2 0 rc rl ps g t (va_A (rv_W h0 b1 b2 cI cJ fl rc rl ps g t) sz) t9) (va_A (rv_W h0 b1 b2 cI cJ fl rc rl ps g t) sz)) 0 0 (va_A (rv_W h0 b1 b2 cI cJ fl rc rl ps g t) sz) := by
  refine Met.ofW (cc := cY1_get) (maxL := 3) (ret := (some .int)) (by decide) rfl ?_
  intro p e s m args below meth c s₁ B hml hv
  obtain ⟨rfl, hsz, hP, hK, hD0⟩ := hv
  have hx := B.exec
  have hb := B.bytes
  have hr := B.returns
  have hts := atoms_spec (ws := wsY1_get) B.pre
  have hown : s.vm.findClass RX1 = some m.cls := findClass_of_methodNamed B.named
  have hlocks := B.notSynchronized
  subst hsz
  have hD := hD0.self (sz := s.heap.size)
  generalize hAe : va_A (rv_W h0 b1 b2 cI cJ fl rc rl ps g t) s.heap.size = A at hD ⊢
  have hA : ∀ q : Nat, s.heap.size ≤ q → A q := fun q h => by rw [← hAe]; exact Or.inr h
  have hS : va_S A s.heap s.heap [] := va_S.rf
  have hP : va_P (dC, dI) rw_cl (rv_W h0 b1 b2 cI cJ fl rc rl ps g t) s.heap := hP
  have hl := lv_entry ([.ref h0, .int (nI y), .int (nI i)]) (n := 3) (Nat.le_of_ble_eq_true rfl)
  rw [lg_entry_eq]
  generalize (lg_sl ([.ref h0, .int (nI y), .int (nI i)]) ++ List.replicate (3 - (lg_sl ([.ref h0, .int (nI y), .int (nI i)])).length) Slot.unset).toArray = ls at hl ⊢
  have hl : lv_has ls 3 [(0, .ref h0), (1, .int (nI y)), (2, .int (nI i))] := hl
  have h1 := ok.rc
  have h2 := ok.rl
  have h3 := ok.k hy hi
  refine lv_aload_n hx hb dY1_get_0 rfl (lv_at hl 0 rfl) ?_
  refine lv_iconst (v := 0) hx hb dY1_get_1 (by decide) ?_
  refine va_put (D := (dC, dI)) (ci := 1) (v := .int 0) (ty := .int) (C := RX1) (T := TY1) (N := 6) hx hb hts (by decide +kernel) tyY1 tyY1_ok nmY1 hown hK hP hD hS 0 rfl rfl 0 (by decide) (hts (.fieldLink RX1 26 "RowFiltersModel" "failed" "I") (by decide +kernel)) (fun _ h9 => h9) rfl (by decide +kernel) rfl rfl (Nat.le_of_ble_eq_true rfl) dY1_get_2 (fun H locs hP hD hS => ?_)
  have hP : va_P (dC, dI) rw_cl [(h0, .inr (1, [.int 0, .int (nI rc), .int (nI rl), .int (nI ps), .ref b1, .ref b2])), (b1, .inl (cI, 4096, .inl g)), (b2, .inl (cJ, 4096, .inl t))] H := hP
  have hD : va_D A [(h0, .inr (1, [.int 0, .int (nI rc), .int (nI rl), .int (nI ps), .ref b1, .ref b2])), (b1, .inl (cI, 4096, .inl g)), (b2, .inl (cJ, 4096, .inl t))] := hD
  refine lv_aload_n hx hb dY1_get_5 rfl (lv_at hl 0 rfl) ?_
  refine lv_iload_n hx hb dY1_get_6 rfl (lv_at hl 1 rfl) ?_
  refine lv_iload_n hx hb dY1_get_7 rfl (lv_at hl 2 rfl) ?_
  refine vp_callSi (W.runV (C := RX1) (As := [.int (nI y), .int (nI i)]) (rest := []) ⟨hx, hb, hml, hown, hts⟩ (c_Y1_out l dC dI cI cJ h0 b1 b2 0 rc rl ps g t (nI y) (nI i)) (cwV 2 hts gY1_get_Y1_out rfl rfl rfl (by decide +kernel) ⟨Nat.le_of_ble_eq_true rfl, Nat.le_of_ble_eq_true rfl⟩) ⟨fun a U g mk q => by obtain ⟨q0, qP, qK⟩ := q; exact ⟨q0, qP, va_K.moved (u := U) (U := U.calling g mk a) (Vm.Alike.refl U.vm) qK⟩, va_recv hK hP (ci := 1) (q0 := 0) rfl rfl, fun U hU hW => ⟨rfl, by rw [hU]; exact hP, va_K.moved hW.alike hK⟩⟩ rfl rfl hl.1 rfl (lv_room (Nat.le_of_ble_eq_true rfl)) dY1_get_8 ⟨Nat.zero_le _, Nat.zero_le _⟩) (fun ro eo => ?_)
  obtain rfl := eo.2 (rf_ot_n h1 h2 hy hi)
  refine lv_if_eq (tgt := 22) hx hb dY1_get_11 (by decide) (fun q => ?_) (fun q => ?_)
  · refine lv_aload_n hx hb dY1_get_22 rfl (lv_at hl 0 rfl) ?_
    refine va_get (D := (dC, dI)) (ci := 1) (v := .ref b1) (C := RX1) (T := TY1) (N := 6) hx hb hts (by decide +kernel) hown hK hP 0 rfl rfl 4 (by decide) (hts (.fieldLink RX1 19 "RowFiltersModel" "bytes" "[I") (by decide +kernel)) (fun _ h9 => h9) rfl dY1_get_23 ?_
    refine lv_iload_n hx hb dY1_get_26 rfl (lv_at hl 1 rfl) ?_
    refine lv_aload_n hx hb dY1_get_27 rfl (lv_at hl 0 rfl) ?_
    refine va_get (D := (dC, dI)) (ci := 1) (v := .int (nI rl)) (C := RX1) (T := TY1) (N := 6) hx hb hts (by decide +kernel) hown hK hP 0 rfl rfl 2 (by decide) (hts (.fieldLink RX1 13 "RowFiltersModel" "width" "I") (by decide +kernel)) (fun _ h9 => h9) rfl dY1_get_28 ?_
    refine lv_imul hx hb dY1_get_31 ?_
    refine lv_iload_n hx hb dY1_get_32 rfl (lv_at hl 2 rfl) ?_
    refine lv_iadd hx hb dY1_get_33 ?_
    refine W.eq (g2 := F0 m 34 ls [.int (nI (y * rl + i)), .ref b1]) (congrArg (fun z9 => F0 m 34 ls [.int z9, .ref b1]) (show (((nI y) * (nI rl)) + (nI i)) = nI (y * rl + i) from rf_ix y rl i)) ?_
    refine va_iald hx hb hK hP 1 0 rfl rfl (vp_in_nI h3 (by omega)) dY1_get_34 ?_
    exact W.iret (v := (g (nI (y * rl + i)).toNatClampNeg)) hx hb hr (fun t ht hW => ⟨⟨(g (nI (y * rl + i)).toNatClampNeg), (), rfl, by rw [nI_clamp (by omega)], by rw [ht]; exact hP, va_K.moved hW.alike hK, hD⟩, hS.F ht⟩) hS.2.2 dY1_get_35
  · exact absurd (rfl : (0 : Int32) = 0) q
set_option maxHeartbeats 4000000 in
set_option maxRecDepth 100000 in
theorem c_Y1_get_bad (l : Launch) (dC : Nat → ClassId) (dI : Nat → Nat → Nat) (cI cJ : ClassId) (h0 b1 b2 : Nat) (fl : Int32) (rc rl ps : Nat) (g t : Nat → Int32) (sz : Nat) (y i : Int32) (hb0 : rf_ot rc rl y i) : Met l yY1_get wsY1_get ({ frames := 1, cells := 0, slots := 0, locals := 22 }) (va_Pc [.ref h0, .int y, .int i] (rv_preD dC dI cI cJ h0 b1 b2 fl rc rl ps g t sz)) (va_Qi (fun (r : Int32) (_ : Unit) => r = 0) (fun _ t9 => rv_B dC dI cI cJ h0 b1 b2 1 rc rl ps g t (va_A (rv_W h0 b1 b2 cI cJ fl rc rl ps g t) sz) t9) (va_A (rv_W h0 b1 b2 cI cJ fl rc rl ps g t) sz)) 0 0 (va_A (rv_W h0 b1 b2 cI cJ fl rc rl ps g t) sz) := by
  refine Met.ofW (cc := cY1_get) (maxL := 3) (ret := (some .int)) (by decide) rfl ?_
  intro p e s m args below meth c s₁ B hml hv
  obtain ⟨rfl, hsz, hP, hK, hD0⟩ := hv
  have hx := B.exec
  have hb := B.bytes
  have hr := B.returns
  have hts := atoms_spec (ws := wsY1_get) B.pre
  have hown : s.vm.findClass RX1 = some m.cls := findClass_of_methodNamed B.named
  have hlocks := B.notSynchronized
  subst hsz
  have hD := hD0.self (sz := s.heap.size)
  generalize hAe : va_A (rv_W h0 b1 b2 cI cJ fl rc rl ps g t) s.heap.size = A at hD ⊢
  have hA : ∀ q : Nat, s.heap.size ≤ q → A q := fun q h => by rw [← hAe]; exact Or.inr h
  have hS : va_S A s.heap s.heap [] := va_S.rf
  have hP : va_P (dC, dI) rw_cl (rv_W h0 b1 b2 cI cJ fl rc rl ps g t) s.heap := hP
  have hl := lv_entry ([.ref h0, .int y, .int i]) (n := 3) (Nat.le_of_ble_eq_true rfl)
  rw [lg_entry_eq]
  generalize (lg_sl ([.ref h0, .int y, .int i]) ++ List.replicate (3 - (lg_sl ([.ref h0, .int y, .int i])).length) Slot.unset).toArray = ls at hl ⊢
  have hl : lv_has ls 3 [(0, .ref h0), (1, .int y), (2, .int i)] := hl
  refine lv_aload_n hx hb dY1_get_0 rfl (lv_at hl 0 rfl) ?_
  refine lv_iconst (v := 0) hx hb dY1_get_1 (by decide) ?_
  refine va_put (D := (dC, dI)) (ci := 1) (v := .int 0) (ty := .int) (C := RX1) (T := TY1) (N := 6) hx hb hts (by decide +kernel) tyY1 tyY1_ok nmY1 hown hK hP hD hS 0 rfl rfl 0 (by decide) (hts (.fieldLink RX1 26 "RowFiltersModel" "failed" "I") (by decide +kernel)) (fun _ h9 => h9) rfl (by decide +kernel) rfl rfl (Nat.le_of_ble_eq_true rfl) dY1_get_2 (fun H locs hP hD hS => ?_)
  have hP : va_P (dC, dI) rw_cl [(h0, .inr (1, [.int 0, .int (nI rc), .int (nI rl), .int (nI ps), .ref b1, .ref b2])), (b1, .inl (cI, 4096, .inl g)), (b2, .inl (cJ, 4096, .inl t))] H := hP
  have hD : va_D A [(h0, .inr (1, [.int 0, .int (nI rc), .int (nI rl), .int (nI ps), .ref b1, .ref b2])), (b1, .inl (cI, 4096, .inl g)), (b2, .inl (cJ, 4096, .inl t))] := hD
  refine lv_aload_n hx hb dY1_get_5 rfl (lv_at hl 0 rfl) ?_
  refine lv_iload_n hx hb dY1_get_6 rfl (lv_at hl 1 rfl) ?_
  refine lv_iload_n hx hb dY1_get_7 rfl (lv_at hl 2 rfl) ?_
  refine vp_callSi (W.runV (C := RX1) (As := [.int y, .int i]) (rest := []) ⟨hx, hb, hml, hown, hts⟩ (c_Y1_out l dC dI cI cJ h0 b1 b2 0 rc rl ps g t y i) (cwV 2 hts gY1_get_Y1_out rfl rfl rfl (by decide +kernel) ⟨Nat.le_of_ble_eq_true rfl, Nat.le_of_ble_eq_true rfl⟩) ⟨fun a U g mk q => by obtain ⟨q0, qP, qK⟩ := q; exact ⟨q0, qP, va_K.moved (u := U) (U := U.calling g mk a) (Vm.Alike.refl U.vm) qK⟩, va_recv hK hP (ci := 1) (q0 := 0) rfl rfl, fun U hU hW => ⟨rfl, by rw [hU]; exact hP, va_K.moved hW.alike hK⟩⟩ rfl rfl hl.1 rfl (lv_room (Nat.le_of_ble_eq_true rfl)) dY1_get_8 ⟨Nat.zero_le _, Nat.zero_le _⟩) (fun ro eo => ?_)
  obtain rfl := eo.1 hb0
  refine lv_if_eq (tgt := 22) hx hb dY1_get_11 (by decide) (fun q => ?_) (fun q => ?_)
  · exact absurd q (by decide)
  · refine lv_aload_n hx hb dY1_get_14 rfl (lv_at hl 0 rfl) ?_
    refine lv_iconst (v := 1) hx hb dY1_get_15 (by decide) ?_
    have hFc := va_free (wc := [(h0, .inr (1, [.int 0, .int (nI rc), .int (nI rl), .int (nI ps), .ref b1, .ref b2])), (b1, .inl (cI, 4096, .inl g)), (b2, .inl (cJ, 4096, .inl t))]) hD hS hA [0, 1, 2] rfl
    refine va_calli (va_runV (C := RX1) (As := [.int 1]) (rest := []) ⟨hx, hb, hml, hown, hts⟩ (c_Y1_fail l dC dI cI cJ h0 b1 b2 0 rc rl ps g t H.size 1) (cwV 1 hts gY1_get_Y1_fail rfl rfl rfl (by decide +kernel) ⟨Nat.le_of_ble_eq_true rfl, Nat.le_of_ble_eq_true rfl⟩) ⟨fun a U g mk q => by obtain ⟨q0, q1, qP, qK, qD⟩ := q; exact ⟨q0, q1, qP, va_K.moved (u := U) (U := U.calling g mk a) (Vm.Alike.refl U.vm) qK, qD⟩, va_recv hK hP (ci := 1) (q0 := 0) rfl rfl, fun U hU hW => ⟨rfl, by rw [hU], by rw [hU]; exact hP, va_K.moved hW.alike hK, hD.weaken (fun _ _ _ _ => trivial)⟩⟩ rfl rfl hl.1 rfl (lv_room (Nat.le_of_ble_eq_true rfl)) dY1_get_16 ⟨Nat.zero_le _, Nat.zero_le _⟩) hS (fun q _ h => hFc q h) hFc (fun rz u t9 H1 locs ht hvm ez hB hz1 hk1 hS => ?_)
    obtain ⟨hP1, hK1, hD1⟩ := hB
    rw [ht] at hP1
    obtain ⟨hP, hD⟩ := va_join (wr := []) (w1 := [(h0, .inr (1, [.int 1, .int (nI rc), .int (nI rl), .int (nI ps), .ref b1, .ref b2])), (b1, .inl (cI, 4096, .inl g)), (b2, .inl (cJ, 4096, .inl t))]) hP hD [0, 1, 2] [] rfl rfl (by decide) (by decide) hk1 hFc hP1 hD1
    generalize H1 = H at hP hS ⊢
    have hP : va_P (dC, dI) rw_cl [(h0, .inr (1, [.int 1, .int (nI rc), .int (nI rl), .int (nI ps), .ref b1, .ref b2])), (b1, .inl (cI, 4096, .inl g)), (b2, .inl (cJ, 4096, .inl t))] H := hP
    have hD : va_D A [(h0, .inr (1, [.int 1, .int (nI rc), .int (nI rl), .int (nI ps), .ref b1, .ref b2])), (b1, .inl (cI, 4096, .inl g)), (b2, .inl (cJ, 4096, .inl t))] := hD
    refine W.widen (k := 0) (n := 0) (Nat.le_refl _) (Nat.le_refl _) ?_
    refine lv_goto (tgt := 35) hx hb dY1_get_19 (by decide) ?_
    exact W.iret (v := rz) hx hb hr (fun t ht hW => ⟨⟨rz, (), rfl, ez, by rw [ht]; exact hP, va_K.moved hW.alike hK, hD⟩, hS.F ht⟩) hS.2.2 dY1_get_35
set_option maxHeartbeats 4000000 in
set_option maxRecDepth 100000 in
theorem c_Y1_set (l : Launch) (dC : Nat → ClassId) (dI : Nat → Nat → Nat) (cI cJ : ClassId) (h0 b1 b2 : Nat) (fl : Int32) (rc rl ps : Nat) (g t : Nat → Int32) (sz : Nat) (y i : Nat) (v : Int32) (ok : rf_ok rc rl ps) (hy : y < rc) (hi : i < rl) (hv1 : ¬ v < 0) (hv2 : ¬ 255 < v) : Met l yY1_set wsY1_set ({ frames := 1, cells := 0, slots := 0, locals := 22 }) (va_Pc [.ref h0, .int (nI y), .int (nI i), .int v] (rv_preD dC dI cI cJ h0 b1 b2 fl rc rl ps g t sz)) (va_Qi (fun (r : Int32) (_ : Unit) => r = g (y * rl + i)) (fun _ t9 => rv_B dC dI cI cJ h0 b1 b2 0 rc rl ps (upd g (y * rl + i) v) t (va_A (rv_W h0 b1 b2 cI cJ fl rc rl ps g t) sz) t9) (va_A (rv_W h0 b1 b2 cI cJ fl rc rl ps g t) sz)) 0 0 (va_A (rv_W h0 b1 b2 cI cJ fl rc rl ps g t) sz) := by
  refine Met.ofW (cc := cY1_set) (maxL := 5) (ret := (some .int)) (by decide) rfl ?_
  intro p e s m args below meth c s₁ B hml hv
  obtain ⟨rfl, hsz, hP, hK, hD0⟩ := hv
  have hx := B.exec
  have hb := B.bytes
  have hr := B.returns
  have hts := atoms_spec (ws := wsY1_set) B.pre
  have hown : s.vm.findClass RX1 = some m.cls := findClass_of_methodNamed B.named
  have hlocks := B.notSynchronized
  subst hsz
  have hD := hD0.self (sz := s.heap.size)
  generalize hAe : va_A (rv_W h0 b1 b2 cI cJ fl rc rl ps g t) s.heap.size = A at hD ⊢
  have hA : ∀ q : Nat, s.heap.size ≤ q → A q := fun q h => by rw [← hAe]; exact Or.inr h
  have hS : va_S A s.heap s.heap [] := va_S.rf
  have hP : va_P (dC, dI) rw_cl (rv_W h0 b1 b2 cI cJ fl rc rl ps g t) s.heap := hP
  have hl := lv_entry ([.ref h0, .int (nI y), .int (nI i), .int v]) (n := 5) (Nat.le_of_ble_eq_true rfl)
  rw [lg_entry_eq]
  generalize (lg_sl ([.ref h0, .int (nI y), .int (nI i), .int v]) ++ List.replicate (5 - (lg_sl ([.ref h0, .int (nI y), .int (nI i), .int v])).length) Slot.unset).toArray = ls at hl ⊢
  have hl : lv_has ls 5 [(0, .ref h0), (1, .int (nI y)), (2, .int (nI i)), (3, .int v)] := hl
  have h1 := ok.rc
  have h2 := ok.rl
  have h3 := ok.k hy hi
  refine lv_aload_n hx hb dY1_set_0 rfl (lv_at hl 0 rfl) ?_
  refine lv_iconst (v := 0) hx hb dY1_set_1 (by decide) ?_
  refine va_put (D := (dC, dI)) (ci := 1) (v := .int 0) (ty := .int) (C := RX1) (T := TY1) (N := 6) hx hb hts (by decide +kernel) tyY1 tyY1_ok nmY1 hown hK hP hD hS 0 rfl rfl 0 (by decide) (hts (.fieldLink RX1 26 "RowFiltersModel" "failed" "I") (by decide +kernel)) (fun _ h9 => h9) rfl (by decide +kernel) rfl rfl (Nat.le_of_ble_eq_true rfl) dY1_set_2 (fun H locs hP hD hS => ?_)
  have hP : va_P (dC, dI) rw_cl [(h0, .inr (1, [.int 0, .int (nI rc), .int (nI rl), .int (nI ps), .ref b1, .ref b2])), (b1, .inl (cI, 4096, .inl g)), (b2, .inl (cJ, 4096, .inl t))] H := hP
  have hD : va_D A [(h0, .inr (1, [.int 0, .int (nI rc), .int (nI rl), .int (nI ps), .ref b1, .ref b2])), (b1, .inl (cI, 4096, .inl g)), (b2, .inl (cJ, 4096, .inl t))] := hD
  refine lv_aload_n hx hb dY1_set_5 rfl (lv_at hl 0 rfl) ?_
  refine lv_iload_n hx hb dY1_set_6 rfl (lv_at hl 1 rfl) ?_
  refine lv_iload_n hx hb dY1_set_7 rfl (lv_at hl 2 rfl) ?_
  refine vp_callSi (W.runV (C := RX1) (As := [.int (nI y), .int (nI i)]) (rest := []) ⟨hx, hb, hml, hown, hts⟩ (c_Y1_out l dC dI cI cJ h0 b1 b2 0 rc rl ps g t (nI y) (nI i)) (cwV 2 hts gY1_set_Y1_out rfl rfl rfl (by decide +kernel) ⟨Nat.le_of_ble_eq_true rfl, Nat.le_of_ble_eq_true rfl⟩) ⟨fun a U g mk q => by obtain ⟨q0, qP, qK⟩ := q; exact ⟨q0, qP, va_K.moved (u := U) (U := U.calling g mk a) (Vm.Alike.refl U.vm) qK⟩, va_recv hK hP (ci := 1) (q0 := 0) rfl rfl, fun U hU hW => ⟨rfl, by rw [hU]; exact hP, va_K.moved hW.alike hK⟩⟩ rfl rfl hl.1 rfl (lv_room (Nat.le_of_ble_eq_true rfl)) dY1_set_8 ⟨Nat.zero_le _, Nat.zero_le _⟩) (fun ro eo => ?_)
  refine lv_if_ne (tgt := 25) hx hb dY1_set_11 (by decide) (fun q1 => ?_) (fun q1 => ?_)
  · exact absurd (eo.2 (rf_ot_n h1 h2 hy hi)) q1
  · refine lv_iload_n hx hb dY1_set_14 rfl (lv_at hl 3 rfl) ?_
    refine lv_if_lt (tgt := 25) hx hb dY1_set_15 (by decide) (fun q2 => ?_) (fun q2 => ?_)
    · exact absurd q2 hv1
    · refine lv_iload_n hx hb dY1_set_18 rfl (lv_at hl 3 rfl) ?_
      refine lv_sipush (v := 255) hx hb dY1_set_19 (by decide) ?_
      refine lv_icmp_le (tgt := 31) hx hb dY1_set_22 (by decide) (fun q3 => ?_) (fun q3 => ?_)
      · refine lv_aload_n hx hb dY1_set_31 rfl (lv_at hl 0 rfl) ?_
        refine va_get (D := (dC, dI)) (ci := 1) (v := .ref b1) (C := RX1) (T := TY1) (N := 6) hx hb hts (by decide +kernel) hown hK hP 0 rfl rfl 4 (by decide) (hts (.fieldLink RX1 19 "RowFiltersModel" "bytes" "[I") (by decide +kernel)) (fun _ h9 => h9) rfl dY1_set_32 ?_
        refine lv_iload_n hx hb dY1_set_35 rfl (lv_at hl 1 rfl) ?_
        refine lv_aload_n hx hb dY1_set_36 rfl (lv_at hl 0 rfl) ?_
        refine va_get (D := (dC, dI)) (ci := 1) (v := .int (nI rl)) (C := RX1) (T := TY1) (N := 6) hx hb hts (by decide +kernel) hown hK hP 0 rfl rfl 2 (by decide) (hts (.fieldLink RX1 13 "RowFiltersModel" "width" "I") (by decide +kernel)) (fun _ h9 => h9) rfl dY1_set_37 ?_
        refine lv_imul hx hb dY1_set_40 ?_
        refine lv_iload_n hx hb dY1_set_41 rfl (lv_at hl 2 rfl) ?_
        refine lv_iadd hx hb dY1_set_42 ?_
        refine W.eq (g2 := F0 m 43 ls [.int (nI (y * rl + i)), .ref b1]) (congrArg (fun z9 => F0 m 43 ls [.int z9, .ref b1]) (show (((nI y) * (nI rl)) + (nI i)) = nI (y * rl + i) from rf_ix y rl i)) ?_
        refine va_iald hx hb hK hP 1 0 rfl rfl (vp_in_nI h3 (by omega)) dY1_set_43 ?_
        refine W.eq (g2 := F0 m 44 ls [.int (g (y * rl + i))]) (congrArg (fun z9 => F0 m 44 ls [.int z9]) (show (g (nI (y * rl + i)).toNatClampNeg) = g (y * rl + i) from by rw [nI_clamp (by omega)])) ?_
        refine lv_istore hx hb dY1_set_44 hl (by decide) rfl (fun ls hl => ?_)
        have hl : lv_has ls 5 [(4, .int (g (y * rl + i))), (0, .ref h0), (1, .int (nI y)), (2, .int (nI i)), (3, .int v)] := hl
        refine lv_aload_n hx hb dY1_set_46 rfl (lv_at hl 1 rfl) ?_
        refine va_get (D := (dC, dI)) (ci := 1) (v := .ref b1) (C := RX1) (T := TY1) (N := 6) hx hb hts (by decide +kernel) hown hK hP 0 rfl rfl 4 (by decide) (hts (.fieldLink RX1 19 "RowFiltersModel" "bytes" "[I") (by decide +kernel)) (fun _ h9 => h9) rfl dY1_set_47 ?_
        refine lv_iload_n hx hb dY1_set_50 rfl (lv_at hl 2 rfl) ?_
        refine lv_aload_n hx hb dY1_set_51 rfl (lv_at hl 1 rfl) ?_
        refine va_get (D := (dC, dI)) (ci := 1) (v := .int (nI rl)) (C := RX1) (T := TY1) (N := 6) hx hb hts (by decide +kernel) hown hK hP 0 rfl rfl 2 (by decide) (hts (.fieldLink RX1 13 "RowFiltersModel" "width" "I") (by decide +kernel)) (fun _ h9 => h9) rfl dY1_set_52 ?_
        refine lv_imul hx hb dY1_set_55 ?_
        refine lv_iload_n hx hb dY1_set_56 rfl (lv_at hl 3 rfl) ?_
        refine lv_iadd hx hb dY1_set_57 ?_
        refine W.eq (g2 := F0 m 58 ls [.int (nI (y * rl + i)), .ref b1]) (congrArg (fun z9 => F0 m 58 ls [.int z9, .ref b1]) (show (((nI y) * (nI rl)) + (nI i)) = nI (y * rl + i) from rf_ix y rl i)) ?_
        refine lv_iload_n hx hb dY1_set_58 rfl (lv_at hl 4 rfl) ?_
        refine va_iast hx hb hK hP hD hS 1 0 rfl rfl (vp_in_nI h3 (by omega)) dY1_set_59 (fun H locs hP hD hS => ?_)
        have hP : va_P (dC, dI) rw_cl [(h0, .inr (1, [.int 0, .int (nI rc), .int (nI rl), .int (nI ps), .ref b1, .ref b2])), (b1, .inl (cI, 4096, .inl (upd g (nI (y * rl + i)).toNatClampNeg v))), (b2, .inl (cJ, 4096, .inl t))] H := hP
        have hD : va_D A [(h0, .inr (1, [.int 0, .int (nI rc), .int (nI rl), .int (nI ps), .ref b1, .ref b2])), (b1, .inl (cI, 4096, .inl (upd g (nI (y * rl + i)).toNatClampNeg v))), (b2, .inl (cJ, 4096, .inl t))] := hD
        rw [nI_clamp (by omega)] at hP hD
        refine lv_iload hx hb dY1_set_60 (lv_at hl 0 rfl) ?_
        exact W.iret (v := g (y * rl + i)) hx hb hr (fun t ht hW => ⟨⟨g (y * rl + i), (), rfl, rfl, by rw [ht]; exact hP, va_K.moved hW.alike hK, hD⟩, hS.F ht⟩) hS.2.2 dY1_set_62
      · exact absurd (Int32.not_le.mp q3) hv2
set_option maxHeartbeats 4000000 in
set_option maxRecDepth 100000 in
theorem c_Y1_set_bad (l : Launch) (dC : Nat → ClassId) (dI : Nat → Nat → Nat) (cI cJ : ClassId) (h0 b1 b2 : Nat) (fl : Int32) (rc rl ps : Nat) (g t : Nat → Int32) (sz : Nat) (y i v : Int32) (hb0 : rf_ot rc rl y i ∨ v < 0 ∨ 255 < v) : Met l yY1_set wsY1_set ({ frames := 1, cells := 0, slots := 0, locals := 22 }) (va_Pc [.ref h0, .int y, .int i, .int v] (rv_preD dC dI cI cJ h0 b1 b2 fl rc rl ps g t sz)) (va_Qi (fun (r : Int32) (_ : Unit) => r = 0) (fun _ t9 => rv_B dC dI cI cJ h0 b1 b2 1 rc rl ps g t (va_A (rv_W h0 b1 b2 cI cJ fl rc rl ps g t) sz) t9) (va_A (rv_W h0 b1 b2 cI cJ fl rc rl ps g t) sz)) 0 0 (va_A (rv_W h0 b1 b2 cI cJ fl rc rl ps g t) sz) := by
  refine Met.ofW (cc := cY1_set) (maxL := 5) (ret := (some .int)) (by decide) rfl ?_
  intro p e s m args below meth c s₁ B hml hv
  obtain ⟨rfl, hsz, hP, hK, hD0⟩ := hv
  have hx := B.exec
  have hb := B.bytes
  have hr := B.returns
  have hts := atoms_spec (ws := wsY1_set) B.pre
  have hown : s.vm.findClass RX1 = some m.cls := findClass_of_methodNamed B.named
  have hlocks := B.notSynchronized
  subst hsz
  have hD := hD0.self (sz := s.heap.size)
  generalize hAe : va_A (rv_W h0 b1 b2 cI cJ fl rc rl ps g t) s.heap.size = A at hD ⊢
  have hA : ∀ q : Nat, s.heap.size ≤ q → A q := fun q h => by rw [← hAe]; exact Or.inr h
  have hS : va_S A s.heap s.heap [] := va_S.rf
  have hP : va_P (dC, dI) rw_cl (rv_W h0 b1 b2 cI cJ fl rc rl ps g t) s.heap := hP
  have hl := lv_entry ([.ref h0, .int y, .int i, .int v]) (n := 5) (Nat.le_of_ble_eq_true rfl)
  rw [lg_entry_eq]
  generalize (lg_sl ([.ref h0, .int y, .int i, .int v]) ++ List.replicate (5 - (lg_sl ([.ref h0, .int y, .int i, .int v])).length) Slot.unset).toArray = ls at hl ⊢
  have hl : lv_has ls 5 [(0, .ref h0), (1, .int y), (2, .int i), (3, .int v)] := hl
  refine lv_aload_n hx hb dY1_set_0 rfl (lv_at hl 0 rfl) ?_
  refine lv_iconst (v := 0) hx hb dY1_set_1 (by decide) ?_
  refine va_put (D := (dC, dI)) (ci := 1) (v := .int 0) (ty := .int) (C := RX1) (T := TY1) (N := 6) hx hb hts (by decide +kernel) tyY1 tyY1_ok nmY1 hown hK hP hD hS 0 rfl rfl 0 (by decide) (hts (.fieldLink RX1 26 "RowFiltersModel" "failed" "I") (by decide +kernel)) (fun _ h9 => h9) rfl (by decide +kernel) rfl rfl (Nat.le_of_ble_eq_true rfl) dY1_set_2 (fun H locs hP hD hS => ?_)
  have hP : va_P (dC, dI) rw_cl [(h0, .inr (1, [.int 0, .int (nI rc), .int (nI rl), .int (nI ps), .ref b1, .ref b2])), (b1, .inl (cI, 4096, .inl g)), (b2, .inl (cJ, 4096, .inl t))] H := hP
  have hD : va_D A [(h0, .inr (1, [.int 0, .int (nI rc), .int (nI rl), .int (nI ps), .ref b1, .ref b2])), (b1, .inl (cI, 4096, .inl g)), (b2, .inl (cJ, 4096, .inl t))] := hD
  refine lv_aload_n hx hb dY1_set_5 rfl (lv_at hl 0 rfl) ?_
  refine lv_iload_n hx hb dY1_set_6 rfl (lv_at hl 1 rfl) ?_
  refine lv_iload_n hx hb dY1_set_7 rfl (lv_at hl 2 rfl) ?_
  refine vp_callSi (W.runV (C := RX1) (As := [.int y, .int i]) (rest := []) ⟨hx, hb, hml, hown, hts⟩ (c_Y1_out l dC dI cI cJ h0 b1 b2 0 rc rl ps g t y i) (cwV 2 hts gY1_set_Y1_out rfl rfl rfl (by decide +kernel) ⟨Nat.le_of_ble_eq_true rfl, Nat.le_of_ble_eq_true rfl⟩) ⟨fun a U g mk q => by obtain ⟨q0, qP, qK⟩ := q; exact ⟨q0, qP, va_K.moved (u := U) (U := U.calling g mk a) (Vm.Alike.refl U.vm) qK⟩, va_recv hK hP (ci := 1) (q0 := 0) rfl rfl, fun U hU hW => ⟨rfl, by rw [hU]; exact hP, va_K.moved hW.alike hK⟩⟩ rfl rfl hl.1 rfl (lv_room (Nat.le_of_ble_eq_true rfl)) dY1_set_8 ⟨Nat.zero_le _, Nat.zero_le _⟩) (fun ro eo => ?_)
  refine lv_if_ne (tgt := 25) hx hb dY1_set_11 (by decide) (fun q1 => ?_) (fun q1 => ?_)
  · refine lv_aload_n hx hb dY1_set_25 rfl (lv_at hl 0 rfl) ?_
    refine lv_iconst (v := 1) hx hb dY1_set_26 (by decide) ?_
    have hFc := va_free (wc := [(h0, .inr (1, [.int 0, .int (nI rc), .int (nI rl), .int (nI ps), .ref b1, .ref b2])), (b1, .inl (cI, 4096, .inl g)), (b2, .inl (cJ, 4096, .inl t))]) hD hS hA [0, 1, 2] rfl
    refine va_calli (va_runV (C := RX1) (As := [.int 1]) (rest := []) ⟨hx, hb, hml, hown, hts⟩ (c_Y1_fail l dC dI cI cJ h0 b1 b2 0 rc rl ps g t H.size 1) (cwV 1 hts gY1_set_Y1_fail rfl rfl rfl (by decide +kernel) ⟨Nat.le_of_ble_eq_true rfl, Nat.le_of_ble_eq_true rfl⟩) ⟨fun a U g mk q => by obtain ⟨q0, q1, qP, qK, qD⟩ := q; exact ⟨q0, q1, qP, va_K.moved (u := U) (U := U.calling g mk a) (Vm.Alike.refl U.vm) qK, qD⟩, va_recv hK hP (ci := 1) (q0 := 0) rfl rfl, fun U hU hW => ⟨rfl, by rw [hU], by rw [hU]; exact hP, va_K.moved hW.alike hK, hD.weaken (fun _ _ _ _ => trivial)⟩⟩ rfl rfl hl.1 rfl (lv_room (Nat.le_of_ble_eq_true rfl)) dY1_set_27 ⟨Nat.zero_le _, Nat.zero_le _⟩) hS (fun q _ h => hFc q h) hFc (fun rz u t9 H1 locs ht hvm ez hB hz1 hk1 hS => ?_)
    obtain ⟨hP1, hK1, hD1⟩ := hB
    rw [ht] at hP1
    obtain ⟨hP, hD⟩ := va_join (wr := []) (w1 := [(h0, .inr (1, [.int 1, .int (nI rc), .int (nI rl), .int (nI ps), .ref b1, .ref b2])), (b1, .inl (cI, 4096, .inl g)), (b2, .inl (cJ, 4096, .inl t))]) hP hD [0, 1, 2] [] rfl rfl (by decide) (by decide) hk1 hFc hP1 hD1
    generalize H1 = H at hP hS ⊢
    have hP : va_P (dC, dI) rw_cl [(h0, .inr (1, [.int 1, .int (nI rc), .int (nI rl), .int (nI ps), .ref b1, .ref b2])), (b1, .inl (cI, 4096, .inl g)), (b2, .inl (cJ, 4096, .inl t))] H := hP
    have hD : va_D A [(h0, .inr (1, [.int 1, .int (nI rc), .int (nI rl), .int (nI ps), .ref b1, .ref b2])), (b1, .inl (cI, 4096, .inl g)), (b2, .inl (cJ, 4096, .inl t))] := hD
    refine W.widen (k := 0) (n := 0) (Nat.le_refl _) (Nat.le_refl _) ?_
    exact W.iret (v := rz) hx hb hr (fun t ht hW => ⟨⟨rz, (), rfl, ez, by rw [ht]; exact hP, va_K.moved hW.alike hK, hD⟩, hS.F ht⟩) hS.2.2 dY1_set_30
  · refine lv_iload_n hx hb dY1_set_14 rfl (lv_at hl 3 rfl) ?_
    refine lv_if_lt (tgt := 25) hx hb dY1_set_15 (by decide) (fun q2 => ?_) (fun q2 => ?_)
    · refine lv_aload_n hx hb dY1_set_25 rfl (lv_at hl 0 rfl) ?_
      refine lv_iconst (v := 1) hx hb dY1_set_26 (by decide) ?_
      have hFc := va_free (wc := [(h0, .inr (1, [.int 0, .int (nI rc), .int (nI rl), .int (nI ps), .ref b1, .ref b2])), (b1, .inl (cI, 4096, .inl g)), (b2, .inl (cJ, 4096, .inl t))]) hD hS hA [0, 1, 2] rfl
      refine va_calli (va_runV (C := RX1) (As := [.int 1]) (rest := []) ⟨hx, hb, hml, hown, hts⟩ (c_Y1_fail l dC dI cI cJ h0 b1 b2 0 rc rl ps g t H.size 1) (cwV 1 hts gY1_set_Y1_fail rfl rfl rfl (by decide +kernel) ⟨Nat.le_of_ble_eq_true rfl, Nat.le_of_ble_eq_true rfl⟩) ⟨fun a U g mk q => by obtain ⟨q0, q1, qP, qK, qD⟩ := q; exact ⟨q0, q1, qP, va_K.moved (u := U) (U := U.calling g mk a) (Vm.Alike.refl U.vm) qK, qD⟩, va_recv hK hP (ci := 1) (q0 := 0) rfl rfl, fun U hU hW => ⟨rfl, by rw [hU], by rw [hU]; exact hP, va_K.moved hW.alike hK, hD.weaken (fun _ _ _ _ => trivial)⟩⟩ rfl rfl hl.1 rfl (lv_room (Nat.le_of_ble_eq_true rfl)) dY1_set_27 ⟨Nat.zero_le _, Nat.zero_le _⟩) hS (fun q _ h => hFc q h) hFc (fun rz u t9 H1 locs ht hvm ez hB hz1 hk1 hS => ?_)
      obtain ⟨hP1, hK1, hD1⟩ := hB
      rw [ht] at hP1
      obtain ⟨hP, hD⟩ := va_join (wr := []) (w1 := [(h0, .inr (1, [.int 1, .int (nI rc), .int (nI rl), .int (nI ps), .ref b1, .ref b2])), (b1, .inl (cI, 4096, .inl g)), (b2, .inl (cJ, 4096, .inl t))]) hP hD [0, 1, 2] [] rfl rfl (by decide) (by decide) hk1 hFc hP1 hD1
      generalize H1 = H at hP hS ⊢
      have hP : va_P (dC, dI) rw_cl [(h0, .inr (1, [.int 1, .int (nI rc), .int (nI rl), .int (nI ps), .ref b1, .ref b2])), (b1, .inl (cI, 4096, .inl g)), (b2, .inl (cJ, 4096, .inl t))] H := hP
      have hD : va_D A [(h0, .inr (1, [.int 1, .int (nI rc), .int (nI rl), .int (nI ps), .ref b1, .ref b2])), (b1, .inl (cI, 4096, .inl g)), (b2, .inl (cJ, 4096, .inl t))] := hD
      refine W.widen (k := 0) (n := 0) (Nat.le_refl _) (Nat.le_refl _) ?_
      exact W.iret (v := rz) hx hb hr (fun t ht hW => ⟨⟨rz, (), rfl, ez, by rw [ht]; exact hP, va_K.moved hW.alike hK, hD⟩, hS.F ht⟩) hS.2.2 dY1_set_30
    · refine lv_iload_n hx hb dY1_set_18 rfl (lv_at hl 3 rfl) ?_
      refine lv_sipush (v := 255) hx hb dY1_set_19 (by decide) ?_
      refine lv_icmp_le (tgt := 31) hx hb dY1_set_22 (by decide) (fun q3 => ?_) (fun q3 => ?_)
      · rcases hb0 with z | z | z
        · exact absurd ((eo.1 z).symm.trans q1) (by decide)
        · exact absurd z q2
        · exact absurd z (Int32.not_lt.mpr q3)
      · refine lv_aload_n hx hb dY1_set_25 rfl (lv_at hl 0 rfl) ?_
        refine lv_iconst (v := 1) hx hb dY1_set_26 (by decide) ?_
        have hFc := va_free (wc := [(h0, .inr (1, [.int 0, .int (nI rc), .int (nI rl), .int (nI ps), .ref b1, .ref b2])), (b1, .inl (cI, 4096, .inl g)), (b2, .inl (cJ, 4096, .inl t))]) hD hS hA [0, 1, 2] rfl
        refine va_calli (va_runV (C := RX1) (As := [.int 1]) (rest := []) ⟨hx, hb, hml, hown, hts⟩ (c_Y1_fail l dC dI cI cJ h0 b1 b2 0 rc rl ps g t H.size 1) (cwV 1 hts gY1_set_Y1_fail rfl rfl rfl (by decide +kernel) ⟨Nat.le_of_ble_eq_true rfl, Nat.le_of_ble_eq_true rfl⟩) ⟨fun a U g mk q => by obtain ⟨q0, q1, qP, qK, qD⟩ := q; exact ⟨q0, q1, qP, va_K.moved (u := U) (U := U.calling g mk a) (Vm.Alike.refl U.vm) qK, qD⟩, va_recv hK hP (ci := 1) (q0 := 0) rfl rfl, fun U hU hW => ⟨rfl, by rw [hU], by rw [hU]; exact hP, va_K.moved hW.alike hK, hD.weaken (fun _ _ _ _ => trivial)⟩⟩ rfl rfl hl.1 rfl (lv_room (Nat.le_of_ble_eq_true rfl)) dY1_set_27 ⟨Nat.zero_le _, Nat.zero_le _⟩) hS (fun q _ h => hFc q h) hFc (fun rz u t9 H1 locs ht hvm ez hB hz1 hk1 hS => ?_)
        obtain ⟨hP1, hK1, hD1⟩ := hB
        rw [ht] at hP1
        obtain ⟨hP, hD⟩ := va_join (wr := []) (w1 := [(h0, .inr (1, [.int 1, .int (nI rc), .int (nI rl), .int (nI ps), .ref b1, .ref b2])), (b1, .inl (cI, 4096, .inl g)), (b2, .inl (cJ, 4096, .inl t))]) hP hD [0, 1, 2] [] rfl rfl (by decide) (by decide) hk1 hFc hP1 hD1
        generalize H1 = H at hP hS ⊢
        have hP : va_P (dC, dI) rw_cl [(h0, .inr (1, [.int 1, .int (nI rc), .int (nI rl), .int (nI ps), .ref b1, .ref b2])), (b1, .inl (cI, 4096, .inl g)), (b2, .inl (cJ, 4096, .inl t))] H := hP
        have hD : va_D A [(h0, .inr (1, [.int 1, .int (nI rc), .int (nI rl), .int (nI ps), .ref b1, .ref b2])), (b1, .inl (cI, 4096, .inl g)), (b2, .inl (cJ, 4096, .inl t))] := hD
        refine W.widen (k := 0) (n := 0) (Nat.le_refl _) (Nat.le_refl _) ?_
        exact W.iret (v := rz) hx hb hr (fun t ht hW => ⟨⟨rz, (), rfl, ez, by rw [ht]; exact hP, va_K.moved hW.alike hK, hD⟩, hS.F ht⟩) hS.2.2 dY1_set_30
end
section
set_option maxHeartbeats 4000000 in
set_option maxRecDepth 100000 in
theorem c_Y1_fill (l : Launch) (dC : Nat → ClassId) (dI : Nat → Nat → Nat) (cI cJ : ClassId) (h0 b1 b2 : Nat) (fl : Int32) (rc rl ps : Nat) (g t : Nat → Int32) (sz : Nat) (a b z : Int32) (ok : rf_ok rc rl ps) : Met l yY1_fill wsY1_fill ({ frames := 0, cells := 0, slots := 0, locals := 0 }) (va_Pc [.ref h0, .int a, .int b, .int z] (rv_preD dC dI cI cJ h0 b1 b2 fl rc rl ps g t sz)) (va_Qv (fun _ : Unit => True) (fun _ t9 => rv_B dC dI cI cJ h0 b1 b2 0 rc rl ps (rf_p g (rf_F a b z) 0 (rc * rl)) t (va_A (rv_W h0 b1 b2 cI cJ fl rc rl ps g t) sz) t9) (va_A (rv_W h0 b1 b2 cI cJ fl rc rl ps g t) sz)) 0 0 (va_A (rv_W h0 b1 b2 cI cJ fl rc rl ps g t) sz) := by
  refine Met.ofW (cc := cY1_fill) (maxL := 5) (ret := none) (by decide) rfl ?_
  intro p e s m args below meth c s₁ B hml hv
  obtain ⟨rfl, hsz, hP, hK, hD0⟩ := hv
  have hx := B.exec
  have hb := B.bytes
  have hr := B.returns
  have hts := atoms_spec (ws := wsY1_fill) B.pre
  have hown : s.vm.findClass RX1 = some m.cls := findClass_of_methodNamed B.named
  have hlocks := B.notSynchronized
  subst hsz
  have hD := hD0.self (sz := s.heap.size)
  generalize hAe : va_A (rv_W h0 b1 b2 cI cJ fl rc rl ps g t) s.heap.size = A at hD ⊢
  have hA : ∀ q : Nat, s.heap.size ≤ q → A q := fun q h => by rw [← hAe]; exact Or.inr h
  have hS : va_S A s.heap s.heap [] := va_S.rf
  have hP : va_P (dC, dI) rw_cl (rv_W h0 b1 b2 cI cJ fl rc rl ps g t) s.heap := hP
  have hl := lv_entry ([.ref h0, .int a, .int b, .int z]) (n := 5) (Nat.le_of_ble_eq_true rfl)
  rw [lg_entry_eq]
  generalize (lg_sl ([.ref h0, .int a, .int b, .int z]) ++ List.replicate (5 - (lg_sl ([.ref h0, .int a, .int b, .int z])).length) Slot.unset).toArray = ls at hl ⊢
  have hl : lv_has ls 5 [(0, .ref h0), (1, .int a), (2, .int b), (3, .int z)] := hl
  have h1 := ok.2.2.1
  refine lv_aload_n hx hb dY1_fill_0 rfl (lv_at hl 0 rfl) ?_
  refine lv_iconst (v := 0) hx hb dY1_fill_1 (by decide) ?_
  refine va_put (D := (dC, dI)) (ci := 1) (v := .int 0) (ty := .int) (C := RX1) (T := TY1) (N := 6) hx hb hts (by decide +kernel) tyY1 tyY1_ok nmY1 hown hK hP hD hS 0 rfl rfl 0 (by decide) (hts (.fieldLink RX1 26 "RowFiltersModel" "failed" "I") (by decide +kernel)) (fun _ h9 => h9) rfl (by decide +kernel) rfl rfl (Nat.le_of_ble_eq_true rfl) dY1_fill_2 (fun H locs hP hD hS => ?_)
  have hP : va_P (dC, dI) rw_cl [(h0, .inr (1, [.int 0, .int (nI rc), .int (nI rl), .int (nI ps), .ref b1, .ref b2])), (b1, .inl (cI, 4096, .inl g)), (b2, .inl (cJ, 4096, .inl t))] H := hP
  have hD : va_D A [(h0, .inr (1, [.int 0, .int (nI rc), .int (nI rl), .int (nI ps), .ref b1, .ref b2])), (b1, .inl (cI, 4096, .inl g)), (b2, .inl (cJ, 4096, .inl t))] := hD
  refine lv_iconst (v := 0) hx hb dY1_fill_5 (by decide) ?_
  refine lv_istore hx hb dY1_fill_6 hl (by decide) rfl (fun ls hl => ?_)
  have hl : lv_has ls 5 [(4, .int 0), (0, .ref h0), (1, .int a), (2, .int b), (3, .int z)] := hl
  have e0 : g = (rf_p g (rf_F a b z) 0 (0)) := (rf_p_nil _ _ _).symm
  rw [e0] at hP hD
  refine rw_loopH (fun k : Nat => rc * rl - k) (fun k ls H locs => (k ≤ rc * rl) ∧ lv_has ls 5 [(0, .ref h0), (1, .int a), (2, .int b), (3, .int z), (4, .int (nI k))] ∧ va_P (dC, dI) rw_cl [(h0, .inr (1, [.int 0, .int (nI rc), .int (nI rl), .int (nI ps), .ref b1, .ref b2])), (b1, .inl (cI, 4096, .inl (rf_p g (rf_F a b z) 0 k))), (b2, .inl (cJ, 4096, .inl t))] H ∧ va_D A [(h0, .inr (1, [.int 0, .int (nI rc), .int (nI rl), .int (nI ps), .ref b1, .ref b2])), (b1, .inl (cI, 4096, .inl (rf_p g (rf_F a b z) 0 k))), (b2, .inl (cJ, 4096, .inl t))] ∧ va_S A s.heap H locs) ?_ (0) ⟨Nat.zero_le _, lv_sub hl [1, 2, 3, 4, 0] rfl, hP, hD, hS⟩
  intro k ls H locs hI ih
  obtain ⟨hj, hl, hP, hD, hS⟩ := hI
  refine lv_iload hx hb dY1_fill_8 (lv_at hl 4 rfl) ?_
  refine lv_aload_n hx hb dY1_fill_10 rfl (lv_at hl 0 rfl) ?_
  refine va_get (D := (dC, dI)) (ci := 1) (v := .int (nI rc)) (C := RX1) (T := TY1) (N := 6) hx hb hts (by decide +kernel) hown hK hP 0 rfl rfl 1 (by decide) (hts (.fieldLink RX1 7 "RowFiltersModel" "height" "I") (by decide +kernel)) (fun _ h9 => h9) rfl dY1_fill_11 ?_
  refine lv_aload_n hx hb dY1_fill_14 rfl (lv_at hl 0 rfl) ?_
  refine va_get (D := (dC, dI)) (ci := 1) (v := .int (nI rl)) (C := RX1) (T := TY1) (N := 6) hx hb hts (by decide +kernel) hown hK hP 0 rfl rfl 2 (by decide) (hts (.fieldLink RX1 13 "RowFiltersModel" "width" "I") (by decide +kernel)) (fun _ h9 => h9) rfl dY1_fill_15 ?_
  refine lv_imul hx hb dY1_fill_18 ?_
  refine W.eq (g2 := F0 m 19 ls [.int (nI (rc * rl)), .int (nI k)]) (congrArg (fun z9 => F0 m 19 ls [.int z9, .int (nI k)]) (show ((nI rc) * (nI rl)) = nI (rc * rl) from rf_mul rc rl)) ?_
  refine lv_icmp_ge (tgt := 52) hx hb dY1_fill_19 (by decide) (fun hc => ?_) (fun hc => ?_)
  · have hi : k = rc * rl := by have := (nI_leI (by omega) (by omega)).mp hc; omega
    rw [hi] at hP hD
    exact W.vret hx hb hr (fun t ht hW => ⟨⟨(), rfl, trivial, by rw [ht]; exact hP, va_K.moved hW.alike hK, hD⟩, hS.F ht⟩) hS.2.2 dY1_fill_52
  · have hi : k < rc * rl := Nat.lt_of_not_le (fun q => hc ((nI_leI (by omega) (by omega)).mpr q))
    refine lv_aload_n hx hb dY1_fill_22 rfl (lv_at hl 0 rfl) ?_
    refine va_get (D := (dC, dI)) (ci := 1) (v := .ref b1) (C := RX1) (T := TY1) (N := 6) hx hb hts (by decide +kernel) hown hK hP 0 rfl rfl 4 (by decide) (hts (.fieldLink RX1 19 "RowFiltersModel" "bytes" "[I") (by decide +kernel)) (fun _ h9 => h9) rfl dY1_fill_23 ?_
    refine lv_iload hx hb dY1_fill_26 (lv_at hl 4 rfl) ?_
    refine lv_iload_n hx hb dY1_fill_28 rfl (lv_at hl 1 rfl) ?_
    refine lv_iload hx hb dY1_fill_29 (lv_at hl 4 rfl) ?_
    refine lv_imul hx hb dY1_fill_31 ?_
    refine lv_iload hx hb dY1_fill_32 (lv_at hl 4 rfl) ?_
    refine lv_imul hx hb dY1_fill_34 ?_
    refine lv_iload_n hx hb dY1_fill_35 rfl (lv_at hl 2 rfl) ?_
    refine lv_iload hx hb dY1_fill_36 (lv_at hl 4 rfl) ?_
    refine lv_imul hx hb dY1_fill_38 ?_
    refine lv_iadd hx hb dY1_fill_39 ?_
    refine lv_iload_n hx hb dY1_fill_40 rfl (lv_at hl 3 rfl) ?_
    refine lv_iadd hx hb dY1_fill_41 ?_
    refine lv_bipush (v := 24) hx hb dY1_fill_42 (by decide) ?_
    refine lv_iushr hx hb dY1_fill_44 rfl ?_
    refine lv_topi (fun v ev => ?_)
    refine va_iast hx hb hK hP hD hS 1 0 rfl rfl (vp_in_nI (by omega) (by omega)) dY1_fill_45 (fun H locs hP hD hS => ?_)
    have hP : va_P (dC, dI) rw_cl [(h0, .inr (1, [.int 0, .int (nI rc), .int (nI rl), .int (nI ps), .ref b1, .ref b2])), (b1, .inl (cI, 4096, .inl (upd (rf_p g (rf_F a b z) 0 k) (nI k).toNatClampNeg v))), (b2, .inl (cJ, 4096, .inl t))] H := hP
    have hD : va_D A [(h0, .inr (1, [.int 0, .int (nI rc), .int (nI rl), .int (nI ps), .ref b1, .ref b2])), (b1, .inl (cI, 4096, .inl (upd (rf_p g (rf_F a b z) 0 k) (nI k).toNatClampNeg v))), (b2, .inl (cJ, 4096, .inl t))] := hD
    refine lv_iinc (k := 4) (v := (nI (k + 1))) hx hb dY1_fill_46 hl rfl (rf_inc k) (by decide) rfl (fun ls hl => ?_)
    have hl : lv_has ls 5 [(4, .int (nI (k + 1))), (0, .ref h0), (1, .int a), (2, .int b), (3, .int z)] := hl
    refine lv_goto (tgt := 8) hx hb dY1_fill_49 (by decide) ?_
    have e9 : (upd (rf_p g (rf_F a b z) 0 k) (nI k).toNatClampNeg v) = (rf_p g (rf_F a b z) 0 (k + 1)) := by rw [nI_clamp (by omega)]; exact rf_p_up (Nat.zero_le _) (by rw [ev]; rfl)
    rw [e9] at hP hD
    exact ih (k + 1) _ _ _ (by show rc * rl - (k + 1) < rc * rl - k; omega) ⟨by omega, lv_sub hl [1, 2, 3, 4, 0] rfl, hP, hD, hS⟩
set_option maxHeartbeats 4000000 in
set_option maxRecDepth 100000 in
theorem c_Y1_hash (l : Launch) (dC : Nat → ClassId) (dI : Nat → Nat → Nat) (cI cJ : ClassId) (h0 b1 b2 : Nat) (fl : Int32) (rc rl ps : Nat) (g t : Nat → Int32) (sz : Nat) (ok : rf_ok rc rl ps) : Met l yY1_hash wsY1_hash ({ frames := 0, cells := 0, slots := 0, locals := 0 }) (va_Pc [.ref h0] (rv_preD dC dI cI cJ h0 b1 b2 fl rc rl ps g t sz)) (va_Qi (fun (r : Int32) (_ : Unit) => r = rf_h g (rc * rl)) (fun _ t9 => rv_B dC dI cI cJ h0 b1 b2 0 rc rl ps g t (va_A (rv_W h0 b1 b2 cI cJ fl rc rl ps g t) sz) t9) (va_A (rv_W h0 b1 b2 cI cJ fl rc rl ps g t) sz)) 0 0 (va_A (rv_W h0 b1 b2 cI cJ fl rc rl ps g t) sz) := by
  refine Met.ofW (cc := cY1_hash) (maxL := 3) (ret := (some .int)) (by decide) rfl ?_
  intro p e s m args below meth c s₁ B hml hv
  obtain ⟨rfl, hsz, hP, hK, hD0⟩ := hv
  have hx := B.exec
  have hb := B.bytes
  have hr := B.returns
  have hts := atoms_spec (ws := wsY1_hash) B.pre
  have hown : s.vm.findClass RX1 = some m.cls := findClass_of_methodNamed B.named
  have hlocks := B.notSynchronized
  subst hsz
  have hD := hD0.self (sz := s.heap.size)
  generalize hAe : va_A (rv_W h0 b1 b2 cI cJ fl rc rl ps g t) s.heap.size = A at hD ⊢
  have hA : ∀ q : Nat, s.heap.size ≤ q → A q := fun q h => by rw [← hAe]; exact Or.inr h
  have hS : va_S A s.heap s.heap [] := va_S.rf
  have hP : va_P (dC, dI) rw_cl (rv_W h0 b1 b2 cI cJ fl rc rl ps g t) s.heap := hP
  have hl := lv_entry ([.ref h0]) (n := 3) (Nat.le_of_ble_eq_true rfl)
  rw [lg_entry_eq]
  generalize (lg_sl ([.ref h0]) ++ List.replicate (3 - (lg_sl ([.ref h0])).length) Slot.unset).toArray = ls at hl ⊢
  have hl : lv_has ls 3 [(0, .ref h0)] := hl
  have h1 := ok.2.2.1
  refine lv_aload_n hx hb dY1_hash_0 rfl (lv_at hl 0 rfl) ?_
  refine lv_iconst (v := 0) hx hb dY1_hash_1 (by decide) ?_
  refine va_put (D := (dC, dI)) (ci := 1) (v := .int 0) (ty := .int) (C := RX1) (T := TY1) (N := 6) hx hb hts (by decide +kernel) tyY1 tyY1_ok nmY1 hown hK hP hD hS 0 rfl rfl 0 (by decide) (hts (.fieldLink RX1 26 "RowFiltersModel" "failed" "I") (by decide +kernel)) (fun _ h9 => h9) rfl (by decide +kernel) rfl rfl (Nat.le_of_ble_eq_true rfl) dY1_hash_2 (fun H locs hP hD hS => ?_)
  have hP : va_P (dC, dI) rw_cl [(h0, .inr (1, [.int 0, .int (nI rc), .int (nI rl), .int (nI ps), .ref b1, .ref b2])), (b1, .inl (cI, 4096, .inl g)), (b2, .inl (cJ, 4096, .inl t))] H := hP
  have hD : va_D A [(h0, .inr (1, [.int 0, .int (nI rc), .int (nI rl), .int (nI ps), .ref b1, .ref b2])), (b1, .inl (cI, 4096, .inl g)), (b2, .inl (cJ, 4096, .inl t))] := hD
  refine lv_iconst (v := 1) hx hb dY1_hash_5 (by decide) ?_
  refine lv_istore_n hx hb dY1_hash_6 rfl hl (by decide) rfl (fun ls hl => ?_)
  have hl : lv_has ls 3 [(1, .int 1), (0, .ref h0)] := hl
  refine lv_iconst (v := 0) hx hb dY1_hash_7 (by decide) ?_
  refine lv_istore_n hx hb dY1_hash_8 rfl hl (by decide) rfl (fun ls hl => ?_)
  have hl : lv_has ls 3 [(2, .int 0), (1, .int 1), (0, .ref h0)] := hl
  refine rw_loop (fun k : Nat => rc * rl - k) (fun k ls => (k ≤ rc * rl) ∧ lv_has ls 3 [(0, .ref h0), (1, .int (rf_h g k)), (2, .int (nI k))]) ?_ (0) ⟨Nat.zero_le _, lv_sub hl [2, 1, 0] rfl⟩
  intro k ls hI ih
  obtain ⟨hj, hl⟩ := hI
  refine lv_iload_n hx hb dY1_hash_9 rfl (lv_at hl 2 rfl) ?_
  refine lv_aload_n hx hb dY1_hash_10 rfl (lv_at hl 0 rfl) ?_
  refine va_get (D := (dC, dI)) (ci := 1) (v := .int (nI rc)) (C := RX1) (T := TY1) (N := 6) hx hb hts (by decide +kernel) hown hK hP 0 rfl rfl 1 (by decide) (hts (.fieldLink RX1 7 "RowFiltersModel" "height" "I") (by decide +kernel)) (fun _ h9 => h9) rfl dY1_hash_11 ?_
  refine lv_aload_n hx hb dY1_hash_14 rfl (lv_at hl 0 rfl) ?_
  refine va_get (D := (dC, dI)) (ci := 1) (v := .int (nI rl)) (C := RX1) (T := TY1) (N := 6) hx hb hts (by decide +kernel) hown hK hP 0 rfl rfl 2 (by decide) (hts (.fieldLink RX1 13 "RowFiltersModel" "width" "I") (by decide +kernel)) (fun _ h9 => h9) rfl dY1_hash_15 ?_
  refine lv_imul hx hb dY1_hash_18 ?_
  refine W.eq (g2 := F0 m 19 ls [.int (nI (rc * rl)), .int (nI k)]) (congrArg (fun z9 => F0 m 19 ls [.int z9, .int (nI k)]) (show ((nI rc) * (nI rl)) = nI (rc * rl) from rf_mul rc rl)) ?_
  refine lv_icmp_ge (tgt := 40) hx hb dY1_hash_19 (by decide) (fun hc => ?_) (fun hc => ?_)
  · have hi : k = rc * rl := by have := (nI_leI (by omega) (by omega)).mp hc; omega
    refine lv_iload_n hx hb dY1_hash_40 rfl (lv_at hl 1 rfl) ?_
    exact W.iret (v := (rf_h g k)) hx hb hr (fun t ht hW => ⟨⟨(rf_h g k), (), rfl, by rw [hi], by rw [ht]; exact hP, va_K.moved hW.alike hK, hD⟩, hS.F ht⟩) hS.2.2 dY1_hash_41
  · have hi : k < rc * rl := Nat.lt_of_not_le (fun q => hc ((nI_leI (by omega) (by omega)).mpr q))
    refine lv_bipush (v := 31) hx hb dY1_hash_22 (by decide) ?_
    refine lv_iload_n hx hb dY1_hash_24 rfl (lv_at hl 1 rfl) ?_
    refine lv_imul hx hb dY1_hash_25 ?_
    refine lv_aload_n hx hb dY1_hash_26 rfl (lv_at hl 0 rfl) ?_
    refine va_get (D := (dC, dI)) (ci := 1) (v := .ref b1) (C := RX1) (T := TY1) (N := 6) hx hb hts (by decide +kernel) hown hK hP 0 rfl rfl 4 (by decide) (hts (.fieldLink RX1 19 "RowFiltersModel" "bytes" "[I") (by decide +kernel)) (fun _ h9 => h9) rfl dY1_hash_27 ?_
    refine lv_iload_n hx hb dY1_hash_30 rfl (lv_at hl 2 rfl) ?_
    refine va_iald hx hb hK hP 1 0 rfl rfl (vp_in_nI (by omega) (by omega)) dY1_hash_31 ?_
    refine W.eq (g2 := F0 m 32 ls [.int (g k), .int (31 * (rf_h g k))]) (congrArg (fun z9 => F0 m 32 ls [.int z9, .int (31 * (rf_h g k))]) (show (g (nI k).toNatClampNeg) = (g k) from by rw [nI_clamp (by omega)])) ?_
    refine lv_iadd hx hb dY1_hash_32 ?_
    refine lv_istore_n hx hb dY1_hash_33 rfl hl (by decide) rfl (fun ls hl => ?_)
    have hl : lv_has ls 3 [(1, .int ((31 * (rf_h g k)) + (g k))), (0, .ref h0), (2, .int (nI k))] := hl
    refine lv_iinc (k := 2) (v := (nI (k + 1))) hx hb dY1_hash_34 hl rfl (rf_inc k) (by decide) rfl (fun ls hl => ?_)
    have hl : lv_has ls 3 [(2, .int (nI (k + 1))), (1, .int ((31 * (rf_h g k)) + (g k))), (0, .ref h0)] := hl
    refine lv_goto (tgt := 9) hx hb dY1_hash_37 (by decide) ?_
    have e9 : rf_h g (k + 1) = (31 * rf_h g k + g k) := rfl
    rw [← e9] at hl
    exact ih (k + 1) _ (by show rc * rl - (k + 1) < rc * rl - k; omega) ⟨by omega, lv_sub hl [2, 1, 0] rfl⟩
end
section
set_option maxHeartbeats 4000000 in
set_option maxRecDepth 100000 in
theorem c_Y1_filter (l : Launch) (dC : Nat → ClassId) (dI : Nat → Nat → Nat) (cI cJ : ClassId) (h0 b1 b2 : Nat) (fl : Int32) (rc rl ps : Nat) (g t : Nat → Int32) (sz : Nat) (y q : Nat) (ok : rf_ok rc rl ps) (hy : y < rc) (hq : q ≤ 4) : Met l yY1_filter wsY1_filter ({ frames := 3, cells := 0, slots := 0, locals := 77 }) (va_Pc [.ref h0, .int (nI y), .int (nI q)] (rv_preD dC dI cI cJ h0 b1 b2 fl rc rl ps g t sz)) (va_Qv (fun _ : Unit => True) (fun _ t9 => rv_B dC dI cI cJ h0 b1 b2 0 rc rl ps (rf_p g (rf_tv g rl ps y q) (y * rl) (y * rl + rl)) (rf_p t (rf_tv g rl ps y q) (y * rl) (y * rl + rl)) (va_A (rv_W h0 b1 b2 cI cJ fl rc rl ps g t) sz) t9) (va_A (rv_W h0 b1 b2 cI cJ fl rc rl ps g t) sz)) 0 0 (va_A (rv_W h0 b1 b2 cI cJ fl rc rl ps g t) sz) := by
  refine Met.ofW (cc := cY1_filter) (maxL := 5) (ret := none) (by decide) rfl ?_
  intro p e s m args below meth c s₁ B hml hv
  obtain ⟨rfl, hsz, hP, hK, hD0⟩ := hv
  have hx := B.exec
  have hb := B.bytes
  have hr := B.returns
  have hts := atoms_spec (ws := wsY1_filter) B.pre
  have hown : s.vm.findClass RX1 = some m.cls := findClass_of_methodNamed B.named
  have hlocks := B.notSynchronized
  subst hsz
  have hD := hD0.self (sz := s.heap.size)
  generalize hAe : va_A (rv_W h0 b1 b2 cI cJ fl rc rl ps g t) s.heap.size = A at hD ⊢
  have hA : ∀ q : Nat, s.heap.size ≤ q → A q := fun q h => by rw [← hAe]; exact Or.inr h
  have hS : va_S A s.heap s.heap [] := va_S.rf
  have hP : va_P (dC, dI) rw_cl (rv_W h0 b1 b2 cI cJ fl rc rl ps g t) s.heap := hP
  have hl := lv_entry ([.ref h0, .int (nI y), .int (nI q)]) (n := 5) (Nat.le_of_ble_eq_true rfl)
  rw [lg_entry_eq]
  generalize (lg_sl ([.ref h0, .int (nI y), .int (nI q)]) ++ List.replicate (5 - (lg_sl ([.ref h0, .int (nI y), .int (nI q)])).length) Slot.unset).toArray = ls at hl ⊢
  have hl : lv_has ls 5 [(0, .ref h0), (1, .int (nI y)), (2, .int (nI q))] := hl
  have h1 := ok.rc
  have h2 := ok.rl
  have h5 := rf_row rl hy
  have h6 := ok.2.2.1
  refine lv_aload_n hx hb dY1_filter_0 rfl (lv_at hl 0 rfl) ?_
  refine lv_iconst (v := 0) hx hb dY1_filter_1 (by decide) ?_
  refine va_put (D := (dC, dI)) (ci := 1) (v := .int 0) (ty := .int) (C := RX1) (T := TY1) (N := 6) hx hb hts (by decide +kernel) tyY1 tyY1_ok nmY1 hown hK hP hD hS 0 rfl rfl 0 (by decide) (hts (.fieldLink RX1 26 "RowFiltersModel" "failed" "I") (by decide +kernel)) (fun _ h9 => h9) rfl (by decide +kernel) rfl rfl (Nat.le_of_ble_eq_true rfl) dY1_filter_2 (fun H locs hP hD hS => ?_)
  have hP : va_P (dC, dI) rw_cl [(h0, .inr (1, [.int 0, .int (nI rc), .int (nI rl), .int (nI ps), .ref b1, .ref b2])), (b1, .inl (cI, 4096, .inl g)), (b2, .inl (cJ, 4096, .inl t))] H := hP
  have hD : va_D A [(h0, .inr (1, [.int 0, .int (nI rc), .int (nI rl), .int (nI ps), .ref b1, .ref b2])), (b1, .inl (cI, 4096, .inl g)), (b2, .inl (cJ, 4096, .inl t))] := hD
  refine lv_aload_n hx hb dY1_filter_5 rfl (lv_at hl 0 rfl) ?_
  refine lv_iload_n hx hb dY1_filter_6 rfl (lv_at hl 1 rfl) ?_
  refine lv_iload_n hx hb dY1_filter_7 rfl (lv_at hl 2 rfl) ?_
  refine vp_callSi (W.runV (C := RX1) (As := [.int (nI y), .int (nI q)]) (rest := []) ⟨hx, hb, hml, hown, hts⟩ (c_Y1_bad l dC dI cI cJ h0 b1 b2 0 rc rl ps g t (nI y) (nI q)) (cwV 2 hts gY1_filter_Y1_bad rfl rfl rfl (by decide +kernel) ⟨Nat.le_of_ble_eq_true rfl, Nat.le_of_ble_eq_true rfl⟩) ⟨fun a U g mk q => by obtain ⟨q0, qP, qK⟩ := q; exact ⟨q0, qP, va_K.moved (u := U) (U := U.calling g mk a) (Vm.Alike.refl U.vm) qK⟩, va_recv hK hP (ci := 1) (q0 := 0) rfl rfl, fun U hU hW => ⟨rfl, by rw [hU]; exact hP, va_K.moved hW.alike hK⟩⟩ rfl rfl hl.1 rfl (lv_room (Nat.le_of_ble_eq_true rfl)) dY1_filter_8 ⟨Nat.zero_le _, Nat.zero_le _⟩) (fun ro eo => ?_)
  refine lv_if_eq (tgt := 22) hx hb dY1_filter_11 (by decide) (fun q1 => ?_) (fun q1 => ?_)
  · refine lv_aload_n hx hb dY1_filter_22 rfl (lv_at hl 0 rfl) ?_
    refine lv_iload_n hx hb dY1_filter_23 rfl (lv_at hl 1 rfl) ?_
    refine lv_iload_n hx hb dY1_filter_24 rfl (lv_at hl 2 rfl) ?_
    have hFc := va_free (wc := [(h0, .inr (1, [.int 0, .int (nI rc), .int (nI rl), .int (nI ps), .ref b1, .ref b2])), (b1, .inl (cI, 4096, .inl g)), (b2, .inl (cJ, 4096, .inl t))]) hD hS hA [0, 1, 2] rfl
    refine va_calli (va_runV (C := RX1) (As := [.int (nI y), .int (nI q)]) (rest := []) ⟨hx, hb, hml, hown, hts⟩ (c_Y1_tell l dC dI cI cJ h0 b1 b2 0 rc rl ps g t H.size y q ok hy hq) (cwV 2 hts gY1_filter_Y1_tell rfl rfl rfl (by decide +kernel) ⟨Nat.le_of_ble_eq_true rfl, Nat.le_of_ble_eq_true rfl⟩) ⟨fun a U g mk q => by obtain ⟨q0, q1, qP, qK, qD⟩ := q; exact ⟨q0, q1, qP, va_K.moved (u := U) (U := U.calling g mk a) (Vm.Alike.refl U.vm) qK, qD⟩, va_recv hK hP (ci := 1) (q0 := 0) rfl rfl, fun U hU hW => ⟨rfl, by rw [hU], by rw [hU]; exact hP, va_K.moved hW.alike hK, hD.weaken (fun _ _ _ _ => trivial)⟩⟩ rfl rfl hl.1 rfl (lv_room (Nat.le_of_ble_eq_true rfl)) dY1_filter_25 ⟨Nat.zero_le _, Nat.zero_le _⟩) hS (fun q _ h => hFc q h) hFc (fun rs u t9 H1 locs ht hvm es hB hz1 hk1 hS => ?_)
    obtain ⟨hP1, hK1, hD1⟩ := hB
    rw [ht] at hP1
    obtain ⟨hP, hD⟩ := va_join (wr := []) (w1 := [(h0, .inr (1, [.int 0, .int (nI rc), .int (nI rl), .int (nI ps), .ref b1, .ref b2])), (b1, .inl (cI, 4096, .inl g)), (b2, .inl (cJ, 4096, .inl (rf_p t (rf_tv g rl ps y q) (y * rl) (y * rl + rl))))]) hP hD [0, 1, 2] [] rfl rfl (by decide) (by decide) hk1 hFc hP1 hD1
    generalize H1 = H at hP hS ⊢
    have hP : va_P (dC, dI) rw_cl [(h0, .inr (1, [.int 0, .int (nI rc), .int (nI rl), .int (nI ps), .ref b1, .ref b2])), (b1, .inl (cI, 4096, .inl g)), (b2, .inl (cJ, 4096, .inl (rf_p t (rf_tv g rl ps y q) (y * rl) (y * rl + rl))))] H := hP
    have hD : va_D A [(h0, .inr (1, [.int 0, .int (nI rc), .int (nI rl), .int (nI ps), .ref b1, .ref b2])), (b1, .inl (cI, 4096, .inl g)), (b2, .inl (cJ, 4096, .inl (rf_p t (rf_tv g rl ps y q) (y * rl) (y * rl + rl))))] := hD
    refine W.widen (k := 0) (n := 0) (Nat.le_refl _) (Nat.le_refl _) ?_
    refine lv_istore_n hx hb dY1_filter_28 rfl hl (by decide) rfl (fun ls hl => ?_)
    have hl : lv_has ls 5 [(3, .int rs), (0, .ref h0), (1, .int (nI y)), (2, .int (nI q))] := hl
    refine lv_iload_n hx hb dY1_filter_29 rfl (lv_at hl 2 rfl) ?_
    refine lv_aload_n hx hb dY1_filter_30 rfl (lv_at hl 1 rfl) ?_
    refine va_get (D := (dC, dI)) (ci := 1) (v := .int (nI rl)) (C := RX1) (T := TY1) (N := 6) hx hb hts (by decide +kernel) hown hK hP 0 rfl rfl 2 (by decide) (hts (.fieldLink RX1 13 "RowFiltersModel" "width" "I") (by decide +kernel)) (fun _ h9 => h9) rfl dY1_filter_31 ?_
    refine lv_imul hx hb dY1_filter_34 ?_
    refine W.eq (g2 := F0 m 35 ls [.int (nI (y * rl + 0))]) (congrArg (fun z9 => F0 m 35 ls [.int z9]) (show ((nI y) * (nI rl)) = nI (y * rl + 0) from by rw [rf_mul, Nat.add_zero])) ?_
    refine lv_istore hx hb dY1_filter_35 hl (by decide) rfl (fun ls hl => ?_)
    have hl : lv_has ls 5 [(4, .int (nI (y * rl + 0))), (3, .int rs), (0, .ref h0), (1, .int (nI y)), (2, .int (nI q))] := hl
    have e0 : g = (rf_p g (rf_p t (rf_tv g rl ps y q) (y * rl) (y * rl + rl)) (y * rl) (y * rl + (0))) := (rf_p_nil _ _ _).symm
    have hP : va_P (dC, dI) rw_cl [(h0, .inr (1, [.int 0, .int (nI rc), .int (nI rl), .int (nI ps), .ref b1, .ref b2])), (b1, .inl (cI, 4096, .inl (rf_p g (rf_p t (rf_tv g rl ps y q) (y * rl) (y * rl + rl)) (y * rl) (y * rl + (0))))), (b2, .inl (cJ, 4096, .inl (rf_p t (rf_tv g rl ps y q) (y * rl) (y * rl + rl))))] H := by rw [← e0]; exact hP
    have hD : va_D A [(h0, .inr (1, [.int 0, .int (nI rc), .int (nI rl), .int (nI ps), .ref b1, .ref b2])), (b1, .inl (cI, 4096, .inl (rf_p g (rf_p t (rf_tv g rl ps y q) (y * rl) (y * rl + rl)) (y * rl) (y * rl + (0))))), (b2, .inl (cJ, 4096, .inl (rf_p t (rf_tv g rl ps y q) (y * rl) (y * rl + rl))))] := by rw [← e0]; exact hD
    refine rw_loopH (fun k : Nat => rl - k) (fun k ls H locs => (k ≤ rl) ∧ lv_has ls 5 [(0, .ref h0), (1, .int (nI y)), (2, .int (nI q)), (4, .int (nI (y * rl + k)))] ∧ va_P (dC, dI) rw_cl [(h0, .inr (1, [.int 0, .int (nI rc), .int (nI rl), .int (nI ps), .ref b1, .ref b2])), (b1, .inl (cI, 4096, .inl (rf_p g (rf_p t (rf_tv g rl ps y q) (y * rl) (y * rl + rl)) (y * rl) (y * rl + k)))), (b2, .inl (cJ, 4096, .inl (rf_p t (rf_tv g rl ps y q) (y * rl) (y * rl + rl))))] H ∧ va_D A [(h0, .inr (1, [.int 0, .int (nI rc), .int (nI rl), .int (nI ps), .ref b1, .ref b2])), (b1, .inl (cI, 4096, .inl (rf_p g (rf_p t (rf_tv g rl ps y q) (y * rl) (y * rl + rl)) (y * rl) (y * rl + k)))), (b2, .inl (cJ, 4096, .inl (rf_p t (rf_tv g rl ps y q) (y * rl) (y * rl + rl))))] ∧ va_S A s.heap H locs) ?_ (0) ⟨Nat.zero_le _, lv_sub hl [2, 3, 4, 0] rfl, hP, hD, hS⟩
    intro k ls H locs hI ih
    obtain ⟨hj, hl, hP, hD, hS⟩ := hI
    refine lv_iload hx hb dY1_filter_37 (lv_at hl 3 rfl) ?_
    refine lv_iload_n hx hb dY1_filter_39 rfl (lv_at hl 1 rfl) ?_
    refine lv_aload_n hx hb dY1_filter_40 rfl (lv_at hl 0 rfl) ?_
    refine va_get (D := (dC, dI)) (ci := 1) (v := .int (nI rl)) (C := RX1) (T := TY1) (N := 6) hx hb hts (by decide +kernel) hown hK hP 0 rfl rfl 2 (by decide) (hts (.fieldLink RX1 13 "RowFiltersModel" "width" "I") (by decide +kernel)) (fun _ h9 => h9) rfl dY1_filter_41 ?_
    refine lv_imul hx hb dY1_filter_44 ?_
    refine lv_aload_n hx hb dY1_filter_45 rfl (lv_at hl 0 rfl) ?_
    refine va_get (D := (dC, dI)) (ci := 1) (v := .int (nI rl)) (C := RX1) (T := TY1) (N := 6) hx hb hts (by decide +kernel) hown hK hP 0 rfl rfl 2 (by decide) (hts (.fieldLink RX1 13 "RowFiltersModel" "width" "I") (by decide +kernel)) (fun _ h9 => h9) rfl dY1_filter_46 ?_
    refine lv_iadd hx hb dY1_filter_49 ?_
    refine W.eq (g2 := F0 m 50 ls [.int (nI (y * rl + rl)), .int (nI (y * rl + k))]) (congrArg (fun z9 => F0 m 50 ls [.int z9, .int (nI (y * rl + k))]) (show (((nI y) * (nI rl)) + (nI rl)) = nI (y * rl + rl) from rf_ix y rl rl)) ?_
    refine lv_icmp_ge (tgt := 73) hx hb dY1_filter_50 (by decide) (fun hc => ?_) (fun hc => ?_)
    · have hi : k = rl := by have := (nI_leI (by omega) (by omega)).mp hc; omega
      rw [hi, rf_p_p] at hP hD
      exact W.vret hx hb hr (fun t ht hW => ⟨⟨(), rfl, trivial, by rw [ht]; exact hP, va_K.moved hW.alike hK, hD⟩, hS.F ht⟩) hS.2.2 dY1_filter_73
    · have hi : k < rl := by have := Nat.lt_of_not_le (fun q => hc ((nI_leI (by omega) (by omega)).mpr q)); omega
      refine lv_aload_n hx hb dY1_filter_53 rfl (lv_at hl 0 rfl) ?_
      refine va_get (D := (dC, dI)) (ci := 1) (v := .ref b1) (C := RX1) (T := TY1) (N := 6) hx hb hts (by decide +kernel) hown hK hP 0 rfl rfl 4 (by decide) (hts (.fieldLink RX1 19 "RowFiltersModel" "bytes" "[I") (by decide +kernel)) (fun _ h9 => h9) rfl dY1_filter_54 ?_
      refine lv_iload hx hb dY1_filter_57 (lv_at hl 3 rfl) ?_
      refine lv_aload_n hx hb dY1_filter_59 rfl (lv_at hl 0 rfl) ?_
      refine va_get (D := (dC, dI)) (ci := 1) (v := .ref b2) (C := RX1) (T := TY1) (N := 6) hx hb hts (by decide +kernel) hown hK hP 0 rfl rfl 5 (by decide) (hts (.fieldLink RX1 23 "RowFiltersModel" "told" "[I") (by decide +kernel)) (fun _ h9 => h9) rfl dY1_filter_60 ?_
      refine lv_iload hx hb dY1_filter_63 (lv_at hl 3 rfl) ?_
      refine va_iald hx hb hK hP 2 1 rfl rfl (vp_in_nI (by omega) (by omega)) dY1_filter_65 ?_
      refine lv_topi (fun v ev => ?_)
      rw [nI_clamp (by omega)] at ev
      refine va_iast hx hb hK hP hD hS 1 0 rfl rfl (vp_in_nI (by omega) (by omega)) dY1_filter_66 (fun H locs hP hD hS => ?_)
      have hP : va_P (dC, dI) rw_cl [(h0, .inr (1, [.int 0, .int (nI rc), .int (nI rl), .int (nI ps), .ref b1, .ref b2])), (b1, .inl (cI, 4096, .inl (upd (rf_p g (rf_p t (rf_tv g rl ps y q) (y * rl) (y * rl + rl)) (y * rl) (y * rl + k)) (nI (y * rl + k)).toNatClampNeg v))), (b2, .inl (cJ, 4096, .inl (rf_p t (rf_tv g rl ps y q) (y * rl) (y * rl + rl))))] H := hP
      have hD : va_D A [(h0, .inr (1, [.int 0, .int (nI rc), .int (nI rl), .int (nI ps), .ref b1, .ref b2])), (b1, .inl (cI, 4096, .inl (upd (rf_p g (rf_p t (rf_tv g rl ps y q) (y * rl) (y * rl + rl)) (y * rl) (y * rl + k)) (nI (y * rl + k)).toNatClampNeg v))), (b2, .inl (cJ, 4096, .inl (rf_p t (rf_tv g rl ps y q) (y * rl) (y * rl + rl))))] := hD
      refine lv_iinc (k := 3) (v := (nI (y * rl + (k + 1)))) hx hb dY1_filter_67 hl rfl (rf_inc (y * rl + k)) (by decide) rfl (fun ls hl => ?_)
      have hl : lv_has ls 5 [(4, .int (nI (y * rl + (k + 1)))), (0, .ref h0), (1, .int (nI y)), (2, .int (nI q))] := hl
      refine lv_goto (tgt := 37) hx hb dY1_filter_70 (by decide) ?_
      have e9 : (upd (rf_p g (rf_p t (rf_tv g rl ps y q) (y * rl) (y * rl + rl)) (y * rl) (y * rl + k)) (nI (y * rl + k)).toNatClampNeg v) = (rf_p g (rf_p t (rf_tv g rl ps y q) (y * rl) (y * rl + rl)) (y * rl) (y * rl + (k + 1))) := by rw [nI_clamp (by omega)]; exact rf_p_up (lo := y * rl) (hi := y * rl + k) (by omega) ev
      rw [e9] at hP hD
      exact ih (k + 1) _ _ _ (by show rl - (k + 1) < rl - k; omega) ⟨by omega, lv_sub hl [1, 2, 3, 0] rfl, hP, hD, hS⟩
  · exact absurd (eo.2 (rf_bd_n h1 hy hq)) q1
set_option maxHeartbeats 4000000 in
set_option maxRecDepth 100000 in
theorem c_Y1_filter_bad (l : Launch) (dC : Nat → ClassId) (dI : Nat → Nat → Nat) (cI cJ : ClassId) (h0 b1 b2 : Nat) (fl : Int32) (rc rl ps : Nat) (g t : Nat → Int32) (sz : Nat) (y q : Int32) (hb0 : rf_bd rc y q) : Met l yY1_filter wsY1_filter ({ frames := 1, cells := 0, slots := 0, locals := 22 }) (va_Pc [.ref h0, .int y, .int q] (rv_preD dC dI cI cJ h0 b1 b2 fl rc rl ps g t sz)) (va_Qv (fun _ : Unit => True) (fun _ t9 => rv_B dC dI cI cJ h0 b1 b2 1 rc rl ps g t (va_A (rv_W h0 b1 b2 cI cJ fl rc rl ps g t) sz) t9) (va_A (rv_W h0 b1 b2 cI cJ fl rc rl ps g t) sz)) 0 0 (va_A (rv_W h0 b1 b2 cI cJ fl rc rl ps g t) sz) := by
  refine Met.ofW (cc := cY1_filter) (maxL := 5) (ret := none) (by decide) rfl ?_
  intro p e s m args below meth c s₁ B hml hv
  obtain ⟨rfl, hsz, hP, hK, hD0⟩ := hv
  have hx := B.exec
  have hb := B.bytes
  have hr := B.returns
  have hts := atoms_spec (ws := wsY1_filter) B.pre
  have hown : s.vm.findClass RX1 = some m.cls := findClass_of_methodNamed B.named
  have hlocks := B.notSynchronized
  subst hsz
  have hD := hD0.self (sz := s.heap.size)
  generalize hAe : va_A (rv_W h0 b1 b2 cI cJ fl rc rl ps g t) s.heap.size = A at hD ⊢
  have hA : ∀ q : Nat, s.heap.size ≤ q → A q := fun q h => by rw [← hAe]; exact Or.inr h
  have hS : va_S A s.heap s.heap [] := va_S.rf
  have hP : va_P (dC, dI) rw_cl (rv_W h0 b1 b2 cI cJ fl rc rl ps g t) s.heap := hP
  have hl := lv_entry ([.ref h0, .int y, .int q]) (n := 5) (Nat.le_of_ble_eq_true rfl)
  rw [lg_entry_eq]
  generalize (lg_sl ([.ref h0, .int y, .int q]) ++ List.replicate (5 - (lg_sl ([.ref h0, .int y, .int q])).length) Slot.unset).toArray = ls at hl ⊢
  have hl : lv_has ls 5 [(0, .ref h0), (1, .int y), (2, .int q)] := hl
  refine lv_aload_n hx hb dY1_filter_0 rfl (lv_at hl 0 rfl) ?_
  refine lv_iconst (v := 0) hx hb dY1_filter_1 (by decide) ?_
  refine va_put (D := (dC, dI)) (ci := 1) (v := .int 0) (ty := .int) (C := RX1) (T := TY1) (N := 6) hx hb hts (by decide +kernel) tyY1 tyY1_ok nmY1 hown hK hP hD hS 0 rfl rfl 0 (by decide) (hts (.fieldLink RX1 26 "RowFiltersModel" "failed" "I") (by decide +kernel)) (fun _ h9 => h9) rfl (by decide +kernel) rfl rfl (Nat.le_of_ble_eq_true rfl) dY1_filter_2 (fun H locs hP hD hS => ?_)
  have hP : va_P (dC, dI) rw_cl [(h0, .inr (1, [.int 0, .int (nI rc), .int (nI rl), .int (nI ps), .ref b1, .ref b2])), (b1, .inl (cI, 4096, .inl g)), (b2, .inl (cJ, 4096, .inl t))] H := hP
  have hD : va_D A [(h0, .inr (1, [.int 0, .int (nI rc), .int (nI rl), .int (nI ps), .ref b1, .ref b2])), (b1, .inl (cI, 4096, .inl g)), (b2, .inl (cJ, 4096, .inl t))] := hD
  refine lv_aload_n hx hb dY1_filter_5 rfl (lv_at hl 0 rfl) ?_
  refine lv_iload_n hx hb dY1_filter_6 rfl (lv_at hl 1 rfl) ?_
  refine lv_iload_n hx hb dY1_filter_7 rfl (lv_at hl 2 rfl) ?_
  refine vp_callSi (W.runV (C := RX1) (As := [.int y, .int q]) (rest := []) ⟨hx, hb, hml, hown, hts⟩ (c_Y1_bad l dC dI cI cJ h0 b1 b2 0 rc rl ps g t y q) (cwV 2 hts gY1_filter_Y1_bad rfl rfl rfl (by decide +kernel) ⟨Nat.le_of_ble_eq_true rfl, Nat.le_of_ble_eq_true rfl⟩) ⟨fun a U g mk q => by obtain ⟨q0, qP, qK⟩ := q; exact ⟨q0, qP, va_K.moved (u := U) (U := U.calling g mk a) (Vm.Alike.refl U.vm) qK⟩, va_recv hK hP (ci := 1) (q0 := 0) rfl rfl, fun U hU hW => ⟨rfl, by rw [hU]; exact hP, va_K.moved hW.alike hK⟩⟩ rfl rfl hl.1 rfl (lv_room (Nat.le_of_ble_eq_true rfl)) dY1_filter_8 ⟨Nat.zero_le _, Nat.zero_le _⟩) (fun ro eo => ?_)
  refine lv_if_eq (tgt := 22) hx hb dY1_filter_11 (by decide) (fun q1 => ?_) (fun q1 => ?_)
  · exact absurd ((eo.1 hb0).symm.trans q1) (by decide)
  · refine lv_aload_n hx hb dY1_filter_14 rfl (lv_at hl 0 rfl) ?_
    refine lv_iconst (v := 1) hx hb dY1_filter_15 (by decide) ?_
    refine va_put (D := (dC, dI)) (ci := 1) (v := .int 1) (ty := .int) (C := RX1) (T := TY1) (N := 6) hx hb hts (by decide +kernel) tyY1 tyY1_ok nmY1 hown hK hP hD hS 0 rfl rfl 0 (by decide) (hts (.fieldLink RX1 26 "RowFiltersModel" "failed" "I") (by decide +kernel)) (fun _ h9 => h9) rfl (by decide +kernel) rfl rfl (Nat.le_of_ble_eq_true rfl) dY1_filter_16 (fun H locs hP hD hS => ?_)
    have hP : va_P (dC, dI) rw_cl [(h0, .inr (1, [.int 1, .int (nI rc), .int (nI rl), .int (nI ps), .ref b1, .ref b2])), (b1, .inl (cI, 4096, .inl g)), (b2, .inl (cJ, 4096, .inl t))] H := hP
    have hD : va_D A [(h0, .inr (1, [.int 1, .int (nI rc), .int (nI rl), .int (nI ps), .ref b1, .ref b2])), (b1, .inl (cI, 4096, .inl g)), (b2, .inl (cJ, 4096, .inl t))] := hD
    refine lv_goto (tgt := 73) hx hb dY1_filter_19 (by decide) ?_
    exact W.vret hx hb hr (fun t ht hW => ⟨⟨(), rfl, trivial, by rw [ht]; exact hP, va_K.moved hW.alike hK, hD⟩, hS.F ht⟩) hS.2.2 dY1_filter_73
set_option maxHeartbeats 4000000 in
set_option maxRecDepth 100000 in
theorem c_Y1_plain (l : Launch) (dC : Nat → ClassId) (dI : Nat → Nat → Nat) (cI cJ : ClassId) (h0 b1 b2 : Nat) (fl : Int32) (rc rl ps : Nat) (g t : Nat → Int32) (sz : Nat) (y q : Nat) (ok : rf_ok rc rl ps) (hy : y < rc) (hq : q ≤ 4) : Met l yY1_plain wsY1_plain ({ frames := 3, cells := 0, slots := 0, locals := 75 }) (va_Pc [.ref h0, .int (nI y), .int (nI q)] (rv_preD dC dI cI cJ h0 b1 b2 fl rc rl ps g t sz)) (va_Qv (fun _ : Unit => True) (fun _ t9 => rv_B dC dI cI cJ h0 b1 b2 0 rc rl ps (rf_U g rl ps y q rl) t (va_A (rv_W h0 b1 b2 cI cJ fl rc rl ps g t) sz) t9) (va_A (rv_W h0 b1 b2 cI cJ fl rc rl ps g t) sz)) 0 0 (va_A (rv_W h0 b1 b2 cI cJ fl rc rl ps g t) sz) := by
  refine Met.ofW (cc := cY1_plain) (maxL := 3) (ret := none) (by decide) rfl ?_
  intro p e s m args below meth c s₁ B hml hv
  obtain ⟨rfl, hsz, hP, hK, hD0⟩ := hv
  have hx := B.exec
  have hb := B.bytes
  have hr := B.returns
  have hts := atoms_spec (ws := wsY1_plain) B.pre
  have hown : s.vm.findClass RX1 = some m.cls := findClass_of_methodNamed B.named
  have hlocks := B.notSynchronized
  subst hsz
  have hD := hD0.self (sz := s.heap.size)
  generalize hAe : va_A (rv_W h0 b1 b2 cI cJ fl rc rl ps g t) s.heap.size = A at hD ⊢
  have hA : ∀ q : Nat, s.heap.size ≤ q → A q := fun q h => by rw [← hAe]; exact Or.inr h
  have hS : va_S A s.heap s.heap [] := va_S.rf
  have hP : va_P (dC, dI) rw_cl (rv_W h0 b1 b2 cI cJ fl rc rl ps g t) s.heap := hP
  have hl := lv_entry ([.ref h0, .int (nI y), .int (nI q)]) (n := 3) (Nat.le_of_ble_eq_true rfl)
  rw [lg_entry_eq]
  generalize (lg_sl ([.ref h0, .int (nI y), .int (nI q)]) ++ List.replicate (3 - (lg_sl ([.ref h0, .int (nI y), .int (nI q)])).length) Slot.unset).toArray = ls at hl ⊢
  have hl : lv_has ls 3 [(0, .ref h0), (1, .int (nI y)), (2, .int (nI q))] := hl
  have h1 := ok.rc
  have h2 := ok.rl
  have h5 := rf_row rl hy
  have h6 := ok.2.2.1
  refine lv_aload_n hx hb dY1_plain_0 rfl (lv_at hl 0 rfl) ?_
  refine lv_iconst (v := 0) hx hb dY1_plain_1 (by decide) ?_
  refine va_put (D := (dC, dI)) (ci := 1) (v := .int 0) (ty := .int) (C := RX1) (T := TY1) (N := 6) hx hb hts (by decide +kernel) tyY1 tyY1_ok nmY1 hown hK hP hD hS 0 rfl rfl 0 (by decide) (hts (.fieldLink RX1 26 "RowFiltersModel" "failed" "I") (by decide +kernel)) (fun _ h9 => h9) rfl (by decide +kernel) rfl rfl (Nat.le_of_ble_eq_true rfl) dY1_plain_2 (fun H locs hP hD hS => ?_)
  have hP : va_P (dC, dI) rw_cl [(h0, .inr (1, [.int 0, .int (nI rc), .int (nI rl), .int (nI ps), .ref b1, .ref b2])), (b1, .inl (cI, 4096, .inl g)), (b2, .inl (cJ, 4096, .inl t))] H := hP
  have hD : va_D A [(h0, .inr (1, [.int 0, .int (nI rc), .int (nI rl), .int (nI ps), .ref b1, .ref b2])), (b1, .inl (cI, 4096, .inl g)), (b2, .inl (cJ, 4096, .inl t))] := hD
  refine lv_aload_n hx hb dY1_plain_5 rfl (lv_at hl 0 rfl) ?_
  refine lv_iload_n hx hb dY1_plain_6 rfl (lv_at hl 1 rfl) ?_
  refine lv_iload_n hx hb dY1_plain_7 rfl (lv_at hl 2 rfl) ?_
  refine vp_callSi (W.runV (C := RX1) (As := [.int (nI y), .int (nI q)]) (rest := []) ⟨hx, hb, hml, hown, hts⟩ (c_Y1_bad l dC dI cI cJ h0 b1 b2 0 rc rl ps g t (nI y) (nI q)) (cwV 2 hts gY1_plain_Y1_bad rfl rfl rfl (by decide +kernel) ⟨Nat.le_of_ble_eq_true rfl, Nat.le_of_ble_eq_true rfl⟩) ⟨fun a U g mk q => by obtain ⟨q0, qP, qK⟩ := q; exact ⟨q0, qP, va_K.moved (u := U) (U := U.calling g mk a) (Vm.Alike.refl U.vm) qK⟩, va_recv hK hP (ci := 1) (q0 := 0) rfl rfl, fun U hU hW => ⟨rfl, by rw [hU]; exact hP, va_K.moved hW.alike hK⟩⟩ rfl rfl hl.1 rfl (lv_room (Nat.le_of_ble_eq_true rfl)) dY1_plain_8 ⟨Nat.zero_le _, Nat.zero_le _⟩) (fun ro eo => ?_)
  refine lv_if_eq (tgt := 22) hx hb dY1_plain_11 (by decide) (fun q1 => ?_) (fun q1 => ?_)
  · refine lv_aload_n hx hb dY1_plain_22 rfl (lv_at hl 0 rfl) ?_
    refine lv_iload_n hx hb dY1_plain_23 rfl (lv_at hl 1 rfl) ?_
    refine lv_iload_n hx hb dY1_plain_24 rfl (lv_at hl 2 rfl) ?_
    have hFc := va_free (wc := [(h0, .inr (1, [.int 0, .int (nI rc), .int (nI rl), .int (nI ps), .ref b1, .ref b2])), (b1, .inl (cI, 4096, .inl g)), (b2, .inl (cJ, 4096, .inl t))]) hD hS hA [0, 1, 2] rfl
    refine va_callv (va_runV (C := RX1) (As := [.int (nI y), .int (nI q)]) (rest := []) ⟨hx, hb, hml, hown, hts⟩ (c_Y1_untell l dC dI cI cJ h0 b1 b2 0 rc rl ps g t H.size y q ok hy hq) (cwV 2 hts gY1_plain_Y1_untell rfl rfl rfl (by decide +kernel) ⟨Nat.le_of_ble_eq_true rfl, Nat.le_of_ble_eq_true rfl⟩) ⟨fun a U g mk q => by obtain ⟨q0, q1, qP, qK, qD⟩ := q; exact ⟨q0, q1, qP, va_K.moved (u := U) (U := U.calling g mk a) (Vm.Alike.refl U.vm) qK, qD⟩, va_recv hK hP (ci := 1) (q0 := 0) rfl rfl, fun U hU hW => ⟨rfl, by rw [hU], by rw [hU]; exact hP, va_K.moved hW.alike hK, hD.weaken (fun _ _ _ _ => trivial)⟩⟩ rfl rfl hl.1 rfl (lv_room (Nat.le_of_ble_eq_true rfl)) dY1_plain_25 ⟨Nat.zero_le _, Nat.zero_le _⟩) hS (fun q _ h => hFc q h) hFc (fun u t9 H1 locs ht hvm hw hB hz1 hk1 hS => ?_)
    obtain ⟨hP1, hK1, hD1⟩ := hB
    rw [ht] at hP1
    obtain ⟨hP, hD⟩ := va_join (wr := []) (w1 := [(h0, .inr (1, [.int 0, .int (nI rc), .int (nI rl), .int (nI ps), .ref b1, .ref b2])), (b1, .inl (cI, 4096, .inl (rf_U g rl ps y q rl))), (b2, .inl (cJ, 4096, .inl t))]) hP hD [0, 1, 2] [] rfl rfl (by decide) (by decide) hk1 hFc hP1 hD1
    generalize H1 = H at hP hS ⊢
    have hP : va_P (dC, dI) rw_cl [(h0, .inr (1, [.int 0, .int (nI rc), .int (nI rl), .int (nI ps), .ref b1, .ref b2])), (b1, .inl (cI, 4096, .inl (rf_U g rl ps y q rl))), (b2, .inl (cJ, 4096, .inl t))] H := hP
    have hD : va_D A [(h0, .inr (1, [.int 0, .int (nI rc), .int (nI rl), .int (nI ps), .ref b1, .ref b2])), (b1, .inl (cI, 4096, .inl (rf_U g rl ps y q rl))), (b2, .inl (cJ, 4096, .inl t))] := hD
    refine W.widen (k := 0) (n := 0) (Nat.le_refl _) (Nat.le_refl _) ?_
    exact W.vret hx hb hr (fun t ht hW => ⟨⟨(), rfl, trivial, by rw [ht]; exact hP, va_K.moved hW.alike hK, hD⟩, hS.F ht⟩) hS.2.2 dY1_plain_28
  · exact absurd (eo.2 (rf_bd_n h1 hy hq)) q1
set_option maxHeartbeats 4000000 in
set_option maxRecDepth 100000 in
theorem c_Y1_plain_bad (l : Launch) (dC : Nat → ClassId) (dI : Nat → Nat → Nat) (cI cJ : ClassId) (h0 b1 b2 : Nat) (fl : Int32) (rc rl ps : Nat) (g t : Nat → Int32) (sz : Nat) (y q : Int32) (hb0 : rf_bd rc y q) : Met l yY1_plain wsY1_plain ({ frames := 1, cells := 0, slots := 0, locals := 22 }) (va_Pc [.ref h0, .int y, .int q] (rv_preD dC dI cI cJ h0 b1 b2 fl rc rl ps g t sz)) (va_Qv (fun _ : Unit => True) (fun _ t9 => rv_B dC dI cI cJ h0 b1 b2 1 rc rl ps g t (va_A (rv_W h0 b1 b2 cI cJ fl rc rl ps g t) sz) t9) (va_A (rv_W h0 b1 b2 cI cJ fl rc rl ps g t) sz)) 0 0 (va_A (rv_W h0 b1 b2 cI cJ fl rc rl ps g t) sz) := by
  refine Met.ofW (cc := cY1_plain) (maxL := 3) (ret := none) (by decide) rfl ?_
  intro p e s m args below meth c s₁ B hml hv
  obtain ⟨rfl, hsz, hP, hK, hD0⟩ := hv
  have hx := B.exec
  have hb := B.bytes
  have hr := B.returns
  have hts := atoms_spec (ws := wsY1_plain) B.pre
  have hown : s.vm.findClass RX1 = some m.cls := findClass_of_methodNamed B.named
  have hlocks := B.notSynchronized
  subst hsz
  have hD := hD0.self (sz := s.heap.size)
  generalize hAe : va_A (rv_W h0 b1 b2 cI cJ fl rc rl ps g t) s.heap.size = A at hD ⊢
  have hA : ∀ q : Nat, s.heap.size ≤ q → A q := fun q h => by rw [← hAe]; exact Or.inr h
  have hS : va_S A s.heap s.heap [] := va_S.rf
  have hP : va_P (dC, dI) rw_cl (rv_W h0 b1 b2 cI cJ fl rc rl ps g t) s.heap := hP
  have hl := lv_entry ([.ref h0, .int y, .int q]) (n := 3) (Nat.le_of_ble_eq_true rfl)
  rw [lg_entry_eq]
  generalize (lg_sl ([.ref h0, .int y, .int q]) ++ List.replicate (3 - (lg_sl ([.ref h0, .int y, .int q])).length) Slot.unset).toArray = ls at hl ⊢
  have hl : lv_has ls 3 [(0, .ref h0), (1, .int y), (2, .int q)] := hl
  refine lv_aload_n hx hb dY1_plain_0 rfl (lv_at hl 0 rfl) ?_
  refine lv_iconst (v := 0) hx hb dY1_plain_1 (by decide) ?_
  refine va_put (D := (dC, dI)) (ci := 1) (v := .int 0) (ty := .int) (C := RX1) (T := TY1) (N := 6) hx hb hts (by decide +kernel) tyY1 tyY1_ok nmY1 hown hK hP hD hS 0 rfl rfl 0 (by decide) (hts (.fieldLink RX1 26 "RowFiltersModel" "failed" "I") (by decide +kernel)) (fun _ h9 => h9) rfl (by decide +kernel) rfl rfl (Nat.le_of_ble_eq_true rfl) dY1_plain_2 (fun H locs hP hD hS => ?_)
  have hP : va_P (dC, dI) rw_cl [(h0, .inr (1, [.int 0, .int (nI rc), .int (nI rl), .int (nI ps), .ref b1, .ref b2])), (b1, .inl (cI, 4096, .inl g)), (b2, .inl (cJ, 4096, .inl t))] H := hP
  have hD : va_D A [(h0, .inr (1, [.int 0, .int (nI rc), .int (nI rl), .int (nI ps), .ref b1, .ref b2])), (b1, .inl (cI, 4096, .inl g)), (b2, .inl (cJ, 4096, .inl t))] := hD
  refine lv_aload_n hx hb dY1_plain_5 rfl (lv_at hl 0 rfl) ?_
  refine lv_iload_n hx hb dY1_plain_6 rfl (lv_at hl 1 rfl) ?_
  refine lv_iload_n hx hb dY1_plain_7 rfl (lv_at hl 2 rfl) ?_
  refine vp_callSi (W.runV (C := RX1) (As := [.int y, .int q]) (rest := []) ⟨hx, hb, hml, hown, hts⟩ (c_Y1_bad l dC dI cI cJ h0 b1 b2 0 rc rl ps g t y q) (cwV 2 hts gY1_plain_Y1_bad rfl rfl rfl (by decide +kernel) ⟨Nat.le_of_ble_eq_true rfl, Nat.le_of_ble_eq_true rfl⟩) ⟨fun a U g mk q => by obtain ⟨q0, qP, qK⟩ := q; exact ⟨q0, qP, va_K.moved (u := U) (U := U.calling g mk a) (Vm.Alike.refl U.vm) qK⟩, va_recv hK hP (ci := 1) (q0 := 0) rfl rfl, fun U hU hW => ⟨rfl, by rw [hU]; exact hP, va_K.moved hW.alike hK⟩⟩ rfl rfl hl.1 rfl (lv_room (Nat.le_of_ble_eq_true rfl)) dY1_plain_8 ⟨Nat.zero_le _, Nat.zero_le _⟩) (fun ro eo => ?_)
  refine lv_if_eq (tgt := 22) hx hb dY1_plain_11 (by decide) (fun q1 => ?_) (fun q1 => ?_)
  · exact absurd ((eo.1 hb0).symm.trans q1) (by decide)
  · refine lv_aload_n hx hb dY1_plain_14 rfl (lv_at hl 0 rfl) ?_
    refine lv_iconst (v := 1) hx hb dY1_plain_15 (by decide) ?_
    refine va_put (D := (dC, dI)) (ci := 1) (v := .int 1) (ty := .int) (C := RX1) (T := TY1) (N := 6) hx hb hts (by decide +kernel) tyY1 tyY1_ok nmY1 hown hK hP hD hS 0 rfl rfl 0 (by decide) (hts (.fieldLink RX1 26 "RowFiltersModel" "failed" "I") (by decide +kernel)) (fun _ h9 => h9) rfl (by decide +kernel) rfl rfl (Nat.le_of_ble_eq_true rfl) dY1_plain_16 (fun H locs hP hD hS => ?_)
    have hP : va_P (dC, dI) rw_cl [(h0, .inr (1, [.int 1, .int (nI rc), .int (nI rl), .int (nI ps), .ref b1, .ref b2])), (b1, .inl (cI, 4096, .inl g)), (b2, .inl (cJ, 4096, .inl t))] H := hP
    have hD : va_D A [(h0, .inr (1, [.int 1, .int (nI rc), .int (nI rl), .int (nI ps), .ref b1, .ref b2])), (b1, .inl (cI, 4096, .inl g)), (b2, .inl (cJ, 4096, .inl t))] := hD
    refine lv_goto (tgt := 28) hx hb dY1_plain_19 (by decide) ?_
    exact W.vret hx hb hr (fun t ht hW => ⟨⟨(), rfl, trivial, by rw [ht]; exact hP, va_K.moved hW.alike hK, hD⟩, hS.F ht⟩) hS.2.2 dY1_plain_28
end
section
set_option maxHeartbeats 4000000 in
set_option maxRecDepth 100000 in
theorem c_Y1_best (l : Launch) (dC : Nat → ClassId) (dI : Nat → Nat → Nat) (cI cJ : ClassId) (h0 b1 b2 : Nat) (fl : Int32) (rc rl ps : Nat) (g t : Nat → Int32) (sz : Nat) (ok : rf_ok rc rl ps) : Met l yY1_best wsY1_best ({ frames := 3, cells := 0, slots := 0, locals := 77 }) (va_Pc [.ref h0] (rv_preD dC dI cI cJ h0 b1 b2 fl rc rl ps g t sz)) (va_Qi (fun (r : Int32) (_ : Unit) => r = rf_v (fun y => rf_q g rl ps y) rc) (fun _ t9 => rv_B dC dI cI cJ h0 b1 b2 0 rc rl ps (rf_p g (rf_bv g rl ps) 0 (rc * rl)) (rf_p t (rf_bv g rl ps) 0 (rc * rl)) (va_A (rv_W h0 b1 b2 cI cJ fl rc rl ps g t) sz) t9) (va_A (rv_W h0 b1 b2 cI cJ fl rc rl ps g t) sz)) 0 0 (va_A (rv_W h0 b1 b2 cI cJ fl rc rl ps g t) sz) := by
  refine Met.ofW (cc := cY1_best) (maxL := 7) (ret := (some .int)) (by decide) rfl ?_
  intro p e s m args below meth c s₁ B hml hv
  obtain ⟨rfl, hsz, hP, hK, hD0⟩ := hv
  have hx := B.exec
  have hb := B.bytes
  have hr := B.returns
  have hts := atoms_spec (ws := wsY1_best) B.pre
  have hown : s.vm.findClass RX1 = some m.cls := findClass_of_methodNamed B.named
  have hlocks := B.notSynchronized
  subst hsz
  have hD := hD0.self (sz := s.heap.size)
  generalize hAe : va_A (rv_W h0 b1 b2 cI cJ fl rc rl ps g t) s.heap.size = A at hD ⊢
  have hA : ∀ q : Nat, s.heap.size ≤ q → A q := fun q h => by rw [← hAe]; exact Or.inr h
  have hS : va_S A s.heap s.heap [] := va_S.rf
  have hP : va_P (dC, dI) rw_cl (rv_W h0 b1 b2 cI cJ fl rc rl ps g t) s.heap := hP
  have hl := lv_entry ([.ref h0]) (n := 7) (Nat.le_of_ble_eq_true rfl)
  rw [lg_entry_eq]
  generalize (lg_sl ([.ref h0]) ++ List.replicate (7 - (lg_sl ([.ref h0])).length) Slot.unset).toArray = ls at hl ⊢
  have hl : lv_has ls 7 [(0, .ref h0)] := hl
  have h1 := ok.rc
  have h2 := ok.rl
  have h6 := ok.2.2.1
  refine lv_aload_n hx hb dY1_best_0 rfl (lv_at hl 0 rfl) ?_
  refine lv_iconst (v := 0) hx hb dY1_best_1 (by decide) ?_
  refine va_put (D := (dC, dI)) (ci := 1) (v := .int 0) (ty := .int) (C := RX1) (T := TY1) (N := 6) hx hb hts (by decide +kernel) tyY1 tyY1_ok nmY1 hown hK hP hD hS 0 rfl rfl 0 (by decide) (hts (.fieldLink RX1 26 "RowFiltersModel" "failed" "I") (by decide +kernel)) (fun _ h9 => h9) rfl (by decide +kernel) rfl rfl (Nat.le_of_ble_eq_true rfl) dY1_best_2 (fun H locs hP hD hS => ?_)
  have hP : va_P (dC, dI) rw_cl [(h0, .inr (1, [.int 0, .int (nI rc), .int (nI rl), .int (nI ps), .ref b1, .ref b2])), (b1, .inl (cI, 4096, .inl g)), (b2, .inl (cJ, 4096, .inl t))] H := hP
  have hD : va_D A [(h0, .inr (1, [.int 0, .int (nI rc), .int (nI rl), .int (nI ps), .ref b1, .ref b2])), (b1, .inl (cI, 4096, .inl g)), (b2, .inl (cJ, 4096, .inl t))] := hD
  refine lv_iconst (v := 1) hx hb dY1_best_5 (by decide) ?_
  refine lv_istore_n hx hb dY1_best_6 rfl hl (by decide) rfl (fun ls hl => ?_)
  have hl : lv_has ls 7 [(1, .int 1), (0, .ref h0)] := hl
  refine lv_iconst (v := 0) hx hb dY1_best_7 (by decide) ?_
  refine lv_istore_n hx hb dY1_best_8 rfl hl (by decide) rfl (fun ls hl => ?_)
  have hl : lv_has ls 7 [(2, .int 0), (1, .int 1), (0, .ref h0)] := hl
  have e0 : t = (rf_p t (rf_bv g rl ps) 0 ((0) * rl)) := by rw [Nat.zero_mul, rf_p_nil]
  rw [e0] at hP hD
  refine rw_loopH (fun y : Nat => rc - y) (fun y ls H locs => (y ≤ rc) ∧ lv_has ls 7 [(0, .ref h0), (1, .int (rf_v (fun y => rf_q g rl ps y) y)), (2, .int (nI y))] ∧ va_P (dC, dI) rw_cl [(h0, .inr (1, [.int 0, .int (nI rc), .int (nI rl), .int (nI ps), .ref b1, .ref b2])), (b1, .inl (cI, 4096, .inl g)), (b2, .inl (cJ, 4096, .inl (rf_p t (rf_bv g rl ps) 0 (y * rl))))] H ∧ va_D A [(h0, .inr (1, [.int 0, .int (nI rc), .int (nI rl), .int (nI ps), .ref b1, .ref b2])), (b1, .inl (cI, 4096, .inl g)), (b2, .inl (cJ, 4096, .inl (rf_p t (rf_bv g rl ps) 0 (y * rl))))] ∧ va_S A s.heap H locs) ?_ (0) ⟨Nat.zero_le _, lv_sub hl [2, 1, 0] rfl, hP, hD, hS⟩
  intro y ls H locs hI ih1
  obtain ⟨hj1, hl, hP, hD, hS⟩ := hI
  refine lv_iload_n hx hb dY1_best_9 rfl (lv_at hl 2 rfl) ?_
  refine lv_aload_n hx hb dY1_best_10 rfl (lv_at hl 0 rfl) ?_
  refine va_get (D := (dC, dI)) (ci := 1) (v := .int (nI rc)) (C := RX1) (T := TY1) (N := 6) hx hb hts (by decide +kernel) hown hK hP 0 rfl rfl 1 (by decide) (hts (.fieldLink RX1 7 "RowFiltersModel" "height" "I") (by decide +kernel)) (fun _ h9 => h9) rfl dY1_best_11 ?_
  refine lv_icmp_ge (tgt := 88) hx hb dY1_best_14 (by decide) (fun hc => ?_) (fun hc => ?_)
  · have hi : y = rc := by have := (nI_leI (by omega) (by omega)).mp hc; omega
    rw [hi] at hP hD hl
    have hl : lv_has ls 7 [(0, .ref h0), (1, .int (rf_v (fun y => rf_q g rl ps y) rc)), (2, .int (nI rc))] := hl
    refine lv_iconst (v := 0) hx hb dY1_best_88 (by decide) ?_
    refine lv_istore_n hx hb dY1_best_89 rfl hl (by decide) rfl (fun ls hl => ?_)
    have hl : lv_has ls 7 [(2, .int 0), (0, .ref h0), (1, .int (rf_v (fun y => rf_q g rl ps y) rc))] := hl
    have e0 : g = (rf_p g (rf_p t (rf_bv g rl ps) 0 (rc * rl)) 0 (0)) := (rf_p_nil _ _ _).symm
    have hP : va_P (dC, dI) rw_cl [(h0, .inr (1, [.int 0, .int (nI rc), .int (nI rl), .int (nI ps), .ref b1, .ref b2])), (b1, .inl (cI, 4096, .inl (rf_p g (rf_p t (rf_bv g rl ps) 0 (rc * rl)) 0 (0)))), (b2, .inl (cJ, 4096, .inl (rf_p t (rf_bv g rl ps) 0 (rc * rl))))] H := by rw [← e0]; exact hP
    have hD : va_D A [(h0, .inr (1, [.int 0, .int (nI rc), .int (nI rl), .int (nI ps), .ref b1, .ref b2])), (b1, .inl (cI, 4096, .inl (rf_p g (rf_p t (rf_bv g rl ps) 0 (rc * rl)) 0 (0)))), (b2, .inl (cJ, 4096, .inl (rf_p t (rf_bv g rl ps) 0 (rc * rl))))] := by rw [← e0]; exact hD
    refine rw_loopH (fun k : Nat => rc * rl - k) (fun k ls H locs => (k ≤ rc * rl) ∧ lv_has ls 7 [(0, .ref h0), (1, .int (rf_v (fun y => rf_q g rl ps y) rc)), (2, .int (nI k))] ∧ va_P (dC, dI) rw_cl [(h0, .inr (1, [.int 0, .int (nI rc), .int (nI rl), .int (nI ps), .ref b1, .ref b2])), (b1, .inl (cI, 4096, .inl (rf_p g (rf_p t (rf_bv g rl ps) 0 (rc * rl)) 0 k))), (b2, .inl (cJ, 4096, .inl (rf_p t (rf_bv g rl ps) 0 (rc * rl))))] H ∧ va_D A [(h0, .inr (1, [.int 0, .int (nI rc), .int (nI rl), .int (nI ps), .ref b1, .ref b2])), (b1, .inl (cI, 4096, .inl (rf_p g (rf_p t (rf_bv g rl ps) 0 (rc * rl)) 0 k))), (b2, .inl (cJ, 4096, .inl (rf_p t (rf_bv g rl ps) 0 (rc * rl))))] ∧ va_S A s.heap H locs) ?_ (0) ⟨Nat.zero_le _, lv_sub hl [1, 2, 0] rfl, hP, hD, hS⟩
    intro k ls H locs hI ih
    obtain ⟨hj, hl, hP, hD, hS⟩ := hI
    refine lv_iload_n hx hb dY1_best_90 rfl (lv_at hl 2 rfl) ?_
    refine lv_aload_n hx hb dY1_best_91 rfl (lv_at hl 0 rfl) ?_
    refine va_get (D := (dC, dI)) (ci := 1) (v := .int (nI rc)) (C := RX1) (T := TY1) (N := 6) hx hb hts (by decide +kernel) hown hK hP 0 rfl rfl 1 (by decide) (hts (.fieldLink RX1 7 "RowFiltersModel" "height" "I") (by decide +kernel)) (fun _ h9 => h9) rfl dY1_best_92 ?_
    refine lv_aload_n hx hb dY1_best_95 rfl (lv_at hl 0 rfl) ?_
    refine va_get (D := (dC, dI)) (ci := 1) (v := .int (nI rl)) (C := RX1) (T := TY1) (N := 6) hx hb hts (by decide +kernel) hown hK hP 0 rfl rfl 2 (by decide) (hts (.fieldLink RX1 13 "RowFiltersModel" "width" "I") (by decide +kernel)) (fun _ h9 => h9) rfl dY1_best_96 ?_
    refine lv_imul hx hb dY1_best_99 ?_
    refine W.eq (g2 := F0 m 100 ls [.int (nI (rc * rl)), .int (nI k)]) (congrArg (fun z9 => F0 m 100 ls [.int z9, .int (nI k)]) (show ((nI rc) * (nI rl)) = nI (rc * rl) from rf_mul rc rl)) ?_
    refine lv_icmp_ge (tgt := 121) hx hb dY1_best_100 (by decide) (fun hk => ?_) (fun hk => ?_)
    · have hi : k = rc * rl := by have := (nI_leI (by omega) (by omega)).mp hk; omega
      rw [hi, rf_p_p] at hP hD
      refine lv_iload_n hx hb dY1_best_121 rfl (lv_at hl 1 rfl) ?_
      exact W.iret (v := (rf_v (fun y => rf_q g rl ps y) rc)) hx hb hr (fun t ht hW => ⟨⟨(rf_v (fun y => rf_q g rl ps y) rc), (), rfl, rfl, by rw [ht]; exact hP, va_K.moved hW.alike hK, hD⟩, hS.F ht⟩) hS.2.2 dY1_best_122
    · have hi : k < rc * rl := Nat.lt_of_not_le (fun q => hk ((nI_leI (by omega) (by omega)).mpr q))
      refine lv_aload_n hx hb dY1_best_103 rfl (lv_at hl 0 rfl) ?_
      refine va_get (D := (dC, dI)) (ci := 1) (v := .ref b1) (C := RX1) (T := TY1) (N := 6) hx hb hts (by decide +kernel) hown hK hP 0 rfl rfl 4 (by decide) (hts (.fieldLink RX1 19 "RowFiltersModel" "bytes" "[I") (by decide +kernel)) (fun _ h9 => h9) rfl dY1_best_104 ?_
      refine lv_iload_n hx hb dY1_best_107 rfl (lv_at hl 2 rfl) ?_
      refine lv_aload_n hx hb dY1_best_108 rfl (lv_at hl 0 rfl) ?_
      refine va_get (D := (dC, dI)) (ci := 1) (v := .ref b2) (C := RX1) (T := TY1) (N := 6) hx hb hts (by decide +kernel) hown hK hP 0 rfl rfl 5 (by decide) (hts (.fieldLink RX1 23 "RowFiltersModel" "told" "[I") (by decide +kernel)) (fun _ h9 => h9) rfl dY1_best_109 ?_
      refine lv_iload_n hx hb dY1_best_112 rfl (lv_at hl 2 rfl) ?_
      refine va_iald hx hb hK hP 2 1 rfl rfl (vp_in_nI (by omega) (by omega)) dY1_best_113 ?_
      refine lv_topi (fun v ev => ?_)
      rw [nI_clamp (by omega)] at ev
      refine va_iast hx hb hK hP hD hS 1 0 rfl rfl (vp_in_nI (by omega) (by omega)) dY1_best_114 (fun H locs hP hD hS => ?_)
      have hP : va_P (dC, dI) rw_cl [(h0, .inr (1, [.int 0, .int (nI rc), .int (nI rl), .int (nI ps), .ref b1, .ref b2])), (b1, .inl (cI, 4096, .inl (upd (rf_p g (rf_p t (rf_bv g rl ps) 0 (rc * rl)) 0 k) (nI k).toNatClampNeg v))), (b2, .inl (cJ, 4096, .inl (rf_p t (rf_bv g rl ps) 0 (rc * rl))))] H := hP
      have hD : va_D A [(h0, .inr (1, [.int 0, .int (nI rc), .int (nI rl), .int (nI ps), .ref b1, .ref b2])), (b1, .inl (cI, 4096, .inl (upd (rf_p g (rf_p t (rf_bv g rl ps) 0 (rc * rl)) 0 k) (nI k).toNatClampNeg v))), (b2, .inl (cJ, 4096, .inl (rf_p t (rf_bv g rl ps) 0 (rc * rl))))] := hD
      refine lv_iinc (k := 2) (v := (nI (k + 1))) hx hb dY1_best_115 hl rfl (rf_inc k) (by decide) rfl (fun ls hl => ?_)
      have hl : lv_has ls 7 [(2, .int (nI (k + 1))), (0, .ref h0), (1, .int (rf_v (fun y => rf_q g rl ps y) rc))] := hl
      refine lv_goto (tgt := 90) hx hb dY1_best_118 (by decide) ?_
      have e9 : (upd (rf_p g (rf_p t (rf_bv g rl ps) 0 (rc * rl)) 0 k) (nI k).toNatClampNeg v) = (rf_p g (rf_p t (rf_bv g rl ps) 0 (rc * rl)) 0 (k + 1)) := by rw [nI_clamp (by omega)]; exact rf_p_up (by omega) ev
      rw [e9] at hP hD
      exact ih (k + 1) _ _ _ (by show rc * rl - (k + 1) < rc * rl - k; omega) ⟨by omega, lv_sub hl [1, 2, 0] rfl, hP, hD, hS⟩
  · have hy : y < rc := Nat.lt_of_not_le (fun q => hc ((nI_leI (by omega) (by omega)).mpr q))
    refine lv_iconst (v := 0) hx hb dY1_best_17 (by decide) ?_
    refine lv_istore_n hx hb dY1_best_18 rfl hl (by decide) rfl (fun ls hl => ?_)
    have hl : lv_has ls 7 [(3, .int 0), (0, .ref h0), (1, .int (rf_v (fun y => rf_q g rl ps y) y)), (2, .int (nI y))] := hl
    refine lv_aload_n hx hb dY1_best_19 rfl (lv_at hl 1 rfl) ?_
    refine lv_iload_n hx hb dY1_best_20 rfl (lv_at hl 3 rfl) ?_
    refine lv_iconst (v := 0) hx hb dY1_best_21 (by decide) ?_
    have hFc := va_free (wc := [(h0, .inr (1, [.int 0, .int (nI rc), .int (nI rl), .int (nI ps), .ref b1, .ref b2])), (b1, .inl (cI, 4096, .inl g)), (b2, .inl (cJ, 4096, .inl (rf_p t (rf_bv g rl ps) 0 (y * rl))))]) hD hS hA [0, 1, 2] rfl
    refine va_calli (va_runV (C := RX1) (As := [.int (nI y), .int 0]) (rest := []) ⟨hx, hb, hml, hown, hts⟩ (c_Y1_tell l dC dI cI cJ h0 b1 b2 0 rc rl ps g (rf_p t (rf_bv g rl ps) 0 (y * rl)) H.size y 0 ok hy (by omega)) (cwV 2 hts gY1_best_Y1_tell rfl rfl rfl (by decide +kernel) ⟨Nat.le_of_ble_eq_true rfl, Nat.le_of_ble_eq_true rfl⟩) ⟨fun a U g mk q => by obtain ⟨q0, q1, qP, qK, qD⟩ := q; exact ⟨q0, q1, qP, va_K.moved (u := U) (U := U.calling g mk a) (Vm.Alike.refl U.vm) qK, qD⟩, va_recv hK hP (ci := 1) (q0 := 0) rfl rfl, fun U hU hW => ⟨rfl, by rw [hU], by rw [hU]; exact hP, va_K.moved hW.alike hK, hD.weaken (fun _ _ _ _ => trivial)⟩⟩ rfl rfl hl.1 rfl (lv_room (Nat.le_of_ble_eq_true rfl)) dY1_best_22 ⟨Nat.zero_le _, Nat.zero_le _⟩) hS (fun q _ h => hFc q h) hFc (fun s0 u t9 H1 locs ht hvm es hB hz1 hk1 hS => ?_)
    obtain ⟨hP1, hK1, hD1⟩ := hB
    rw [ht] at hP1
    obtain ⟨hP, hD⟩ := va_join (wr := []) (w1 := [(h0, .inr (1, [.int 0, .int (nI rc), .int (nI rl), .int (nI ps), .ref b1, .ref b2])), (b1, .inl (cI, 4096, .inl g)), (b2, .inl (cJ, 4096, .inl (rf_p (rf_p t (rf_bv g rl ps) 0 (y * rl)) (rf_tv g rl ps y 0) (y * rl) (y * rl + rl))))]) hP hD [0, 1, 2] [] rfl rfl (by decide) (by decide) hk1 hFc hP1 hD1
    generalize H1 = H at hP hS ⊢
    have hP : va_P (dC, dI) rw_cl [(h0, .inr (1, [.int 0, .int (nI rc), .int (nI rl), .int (nI ps), .ref b1, .ref b2])), (b1, .inl (cI, 4096, .inl g)), (b2, .inl (cJ, 4096, .inl (rf_p (rf_p t (rf_bv g rl ps) 0 (y * rl)) (rf_tv g rl ps y 0) (y * rl) (y * rl + rl))))] H := hP
    have hD : va_D A [(h0, .inr (1, [.int 0, .int (nI rc), .int (nI rl), .int (nI ps), .ref b1, .ref b2])), (b1, .inl (cI, 4096, .inl g)), (b2, .inl (cJ, 4096, .inl (rf_p (rf_p t (rf_bv g rl ps) 0 (y * rl)) (rf_tv g rl ps y 0) (y * rl) (y * rl + rl))))] := hD
    refine W.widen (k := 0) (n := 0) (Nat.le_refl _) (Nat.le_refl _) ?_
    subst es
    refine lv_istore hx hb dY1_best_25 hl (by decide) rfl (fun ls hl => ?_)
    have hl : lv_has ls 7 [(4, .int (rf_s g rl ps y 0 rl)), (3, .int 0), (0, .ref h0), (1, .int (rf_v (fun y => rf_q g rl ps y) y)), (2, .int (nI y))] := hl
    refine lv_iconst (v := 1) hx hb dY1_best_27 (by decide) ?_
    refine lv_istore hx hb dY1_best_28 hl (by decide) rfl (fun ls hl => ?_)
    have hl : lv_has ls 7 [(5, .int 1), (4, .int (rf_s g rl ps y 0 rl)), (3, .int 0), (0, .ref h0), (1, .int (rf_v (fun y => rf_q g rl ps y) y)), (2, .int (nI y))] := hl
    have e0 : (rf_p (rf_p t (rf_bv g rl ps) 0 (y * rl)) (rf_tv g rl ps y 0) (y * rl) (y * rl + rl)) = (rf_p (rf_p t (rf_bv g rl ps) 0 (y * rl)) (rf_tv g rl ps y (0)) (y * rl) (y * rl + rl)) := rfl
    rw [e0] at hP hD
    refine rw_loopH (fun j : Nat => 4 - j) (fun j ls H locs => (j ≤ 4) ∧ lv_has ls 7 [(0, .ref h0), (1, .int (rf_v (fun y => rf_q g rl ps y) y)), (2, .int (nI y)), (3, .int (nI (rf_l (fun q => rf_s g rl ps y q rl) j).1)), (4, .int ((rf_l (fun q => rf_s g rl ps y q rl) j).2)), (5, .int (nI (j + 1)))] ∧ va_P (dC, dI) rw_cl [(h0, .inr (1, [.int 0, .int (nI rc), .int (nI rl), .int (nI ps), .ref b1, .ref b2])), (b1, .inl (cI, 4096, .inl g)), (b2, .inl (cJ, 4096, .inl (rf_p (rf_p t (rf_bv g rl ps) 0 (y * rl)) (rf_tv g rl ps y j) (y * rl) (y * rl + rl))))] H ∧ va_D A [(h0, .inr (1, [.int 0, .int (nI rc), .int (nI rl), .int (nI ps), .ref b1, .ref b2])), (b1, .inl (cI, 4096, .inl g)), (b2, .inl (cJ, 4096, .inl (rf_p (rf_p t (rf_bv g rl ps) 0 (y * rl)) (rf_tv g rl ps y j) (y * rl) (y * rl + rl))))] ∧ va_S A s.heap H locs) ?_ (0) ⟨Nat.zero_le _, lv_sub hl [3, 4, 5, 2, 1, 0] rfl, hP, hD, hS⟩
    intro j ls H locs hI ih
    obtain ⟨hj, hl, hP, hD, hS⟩ := hI
    refine lv_iload hx hb dY1_best_30 (lv_at hl 5 rfl) ?_
    refine lv_iconst (v := 5) hx hb dY1_best_32 (by decide) ?_
    refine lv_icmp_ge (tgt := 68) hx hb dY1_best_33 (by decide) (fun hc2 => ?_) (fun hc2 => ?_)
    · have hi : j = 4 := by have := (nI_leI (a := 5) (by omega) (by omega)).mp hc2; omega
      rw [hi] at hl hP hD
      have hl : lv_has ls 7 [(0, .ref h0), (1, .int (rf_v (fun y => rf_q g rl ps y) y)), (2, .int (nI y)), (3, .int (nI (rf_q g rl ps y))), (4, .int ((rf_l (fun q => rf_s g rl ps y q rl) 4).2)), (5, .int (nI (4 + 1)))] := hl
      refine lv_aload_n hx hb dY1_best_68 rfl (lv_at hl 0 rfl) ?_
      refine lv_iload_n hx hb dY1_best_69 rfl (lv_at hl 2 rfl) ?_
      refine lv_iload_n hx hb dY1_best_70 rfl (lv_at hl 3 rfl) ?_
      have hFc := va_free (wc := [(h0, .inr (1, [.int 0, .int (nI rc), .int (nI rl), .int (nI ps), .ref b1, .ref b2])), (b1, .inl (cI, 4096, .inl g)), (b2, .inl (cJ, 4096, .inl (rf_p (rf_p t (rf_bv g rl ps) 0 (y * rl)) (rf_tv g rl ps y 4) (y * rl) (y * rl + rl))))]) hD hS hA [0, 1, 2] rfl
      refine va_calli (va_runV (C := RX1) (As := [.int (nI y), .int (nI (rf_q g rl ps y))]) (rest := []) ⟨hx, hb, hml, hown, hts⟩ (c_Y1_tell l dC dI cI cJ h0 b1 b2 0 rc rl ps g (rf_p (rf_p t (rf_bv g rl ps) 0 (y * rl)) (rf_tv g rl ps y 4) (y * rl) (y * rl + rl)) H.size y (rf_q g rl ps y) ok hy (rf_q_le _ _ _ _)) (cwV 2 hts gY1_best_Y1_tell rfl rfl rfl (by decide +kernel) ⟨Nat.le_of_ble_eq_true rfl, Nat.le_of_ble_eq_true rfl⟩) ⟨fun a U g mk q => by obtain ⟨q0, q1, qP, qK, qD⟩ := q; exact ⟨q0, q1, qP, va_K.moved (u := U) (U := U.calling g mk a) (Vm.Alike.refl U.vm) qK, qD⟩, va_recv hK hP (ci := 1) (q0 := 0) rfl rfl, fun U hU hW => ⟨rfl, by rw [hU], by rw [hU]; exact hP, va_K.moved hW.alike hK, hD.weaken (fun _ _ _ _ => trivial)⟩⟩ rfl rfl hl.1 rfl (lv_room (Nat.le_of_ble_eq_true rfl)) dY1_best_71 ⟨Nat.zero_le _, Nat.zero_le _⟩) hS (fun q _ h => hFc q h) hFc (fun s2 u t9 H1 locs ht hvm es2 hB hz1 hk1 hS => ?_)
      obtain ⟨hP1, hK1, hD1⟩ := hB
      rw [ht] at hP1
      obtain ⟨hP, hD⟩ := va_join (wr := []) (w1 := [(h0, .inr (1, [.int 0, .int (nI rc), .int (nI rl), .int (nI ps), .ref b1, .ref b2])), (b1, .inl (cI, 4096, .inl g)), (b2, .inl (cJ, 4096, .inl (rf_p (rf_p (rf_p t (rf_bv g rl ps) 0 (y * rl)) (rf_tv g rl ps y 4) (y * rl) (y * rl + rl)) (rf_tv g rl ps y (rf_q g rl ps y)) (y * rl) (y * rl + rl))))]) hP hD [0, 1, 2] [] rfl rfl (by decide) (by decide) hk1 hFc hP1 hD1
      generalize H1 = H at hP hS ⊢
      have hP : va_P (dC, dI) rw_cl [(h0, .inr (1, [.int 0, .int (nI rc), .int (nI rl), .int (nI ps), .ref b1, .ref b2])), (b1, .inl (cI, 4096, .inl g)), (b2, .inl (cJ, 4096, .inl (rf_p (rf_p (rf_p t (rf_bv g rl ps) 0 (y * rl)) (rf_tv g rl ps y 4) (y * rl) (y * rl + rl)) (rf_tv g rl ps y (rf_q g rl ps y)) (y * rl) (y * rl + rl))))] H := hP
      have hD : va_D A [(h0, .inr (1, [.int 0, .int (nI rc), .int (nI rl), .int (nI ps), .ref b1, .ref b2])), (b1, .inl (cI, 4096, .inl g)), (b2, .inl (cJ, 4096, .inl (rf_p (rf_p (rf_p t (rf_bv g rl ps) 0 (y * rl)) (rf_tv g rl ps y 4) (y * rl) (y * rl + rl)) (rf_tv g rl ps y (rf_q g rl ps y)) (y * rl) (y * rl + rl))))] := hD
      refine W.widen (k := 0) (n := 0) (Nat.le_refl _) (Nat.le_refl _) ?_
      refine lv_istore hx hb dY1_best_74 hl (by decide) rfl (fun ls hl => ?_)
      have hl : lv_has ls 7 [(4, .int s2), (0, .ref h0), (1, .int (rf_v (fun y => rf_q g rl ps y) y)), (2, .int (nI y)), (3, .int (nI (rf_q g rl ps y))), (5, .int (nI (4 + 1)))] := hl
      refine lv_iconst (v := 5) hx hb dY1_best_76 (by decide) ?_
      refine lv_iload_n hx hb dY1_best_77 rfl (lv_at hl 2 rfl) ?_
      refine lv_imul hx hb dY1_best_78 ?_
      refine lv_iload_n hx hb dY1_best_79 rfl (lv_at hl 4 rfl) ?_
      refine lv_iadd hx hb dY1_best_80 ?_
      refine lv_istore_n hx hb dY1_best_81 rfl hl (by decide) rfl (fun ls hl => ?_)
      have hl : lv_has ls 7 [(1, .int ((5 * (rf_v (fun y => rf_q g rl ps y) y)) + (nI (rf_q g rl ps y)))), (4, .int s2), (0, .ref h0), (2, .int (nI y)), (3, .int (nI (rf_q g rl ps y))), (5, .int (nI (4 + 1)))] := hl
      refine lv_iinc (k := 3) (v := (nI (y + 1))) hx hb dY1_best_82 hl rfl (rf_inc y) (by decide) rfl (fun ls hl => ?_)
      have hl : lv_has ls 7 [(2, .int (nI (y + 1))), (1, .int ((5 * (rf_v (fun y => rf_q g rl ps y) y)) + (nI (rf_q g rl ps y)))), (4, .int s2), (0, .ref h0), (3, .int (nI (rf_q g rl ps y))), (5, .int (nI (4 + 1)))] := hl
      refine lv_goto (tgt := 9) hx hb dY1_best_85 (by decide) ?_
      have e9 : rf_v (fun y => rf_q g rl ps y) (y + 1) = (5 * rf_v (fun y => rf_q g rl ps y) y + nI (rf_q g rl ps y)) := rfl
      rw [← e9] at hl
      have e9 : (rf_p (rf_p (rf_p t (rf_bv g rl ps) 0 (y * rl)) (rf_tv g rl ps y 4) (y * rl) (y * rl + rl)) (rf_tv g rl ps y (rf_q g rl ps y)) (y * rl) (y * rl + rl)) = (rf_p t (rf_bv g rl ps) 0 ((y + 1) * rl)) := by rw [rf_p_over]; exact rf_best_up _ _ _ _ _
      rw [e9] at hP hD
      exact ih1 (y + 1) _ _ _ (by show rc - (y + 1) < rc - y; omega) ⟨by omega, lv_sub hl [3, 1, 0] rfl, hP, hD, hS⟩
    · have hi : j < 4 := Nat.lt_of_not_le (fun q => hc2 ((nI_leI (a := 5) (by omega) (by omega)).mpr (by omega)))
      refine lv_aload_n hx hb dY1_best_36 rfl (lv_at hl 0 rfl) ?_
      refine lv_iload_n hx hb dY1_best_37 rfl (lv_at hl 2 rfl) ?_
      refine lv_iload hx hb dY1_best_38 (lv_at hl 5 rfl) ?_
      have hFc := va_free (wc := [(h0, .inr (1, [.int 0, .int (nI rc), .int (nI rl), .int (nI ps), .ref b1, .ref b2])), (b1, .inl (cI, 4096, .inl g)), (b2, .inl (cJ, 4096, .inl (rf_p (rf_p t (rf_bv g rl ps) 0 (y * rl)) (rf_tv g rl ps y j) (y * rl) (y * rl + rl))))]) hD hS hA [0, 1, 2] rfl
      refine va_calli (va_runV (C := RX1) (As := [.int (nI y), .int (nI (j + 1))]) (rest := []) ⟨hx, hb, hml, hown, hts⟩ (c_Y1_tell l dC dI cI cJ h0 b1 b2 0 rc rl ps g (rf_p (rf_p t (rf_bv g rl ps) 0 (y * rl)) (rf_tv g rl ps y j) (y * rl) (y * rl + rl)) H.size y (j + 1) ok hy (by omega)) (cwV 2 hts gY1_best_Y1_tell rfl rfl rfl (by decide +kernel) ⟨Nat.le_of_ble_eq_true rfl, Nat.le_of_ble_eq_true rfl⟩) ⟨fun a U g mk q => by obtain ⟨q0, q1, qP, qK, qD⟩ := q; exact ⟨q0, q1, qP, va_K.moved (u := U) (U := U.calling g mk a) (Vm.Alike.refl U.vm) qK, qD⟩, va_recv hK hP (ci := 1) (q0 := 0) rfl rfl, fun U hU hW => ⟨rfl, by rw [hU], by rw [hU]; exact hP, va_K.moved hW.alike hK, hD.weaken (fun _ _ _ _ => trivial)⟩⟩ rfl rfl hl.1 rfl (lv_room (Nat.le_of_ble_eq_true rfl)) dY1_best_40 ⟨Nat.zero_le _, Nat.zero_le _⟩) hS (fun q _ h => hFc q h) hFc (fun s1 u t9 H1 locs ht hvm es hB hz1 hk1 hS => ?_)
      obtain ⟨hP1, hK1, hD1⟩ := hB
      rw [ht] at hP1
      obtain ⟨hP, hD⟩ := va_join (wr := []) (w1 := [(h0, .inr (1, [.int 0, .int (nI rc), .int (nI rl), .int (nI ps), .ref b1, .ref b2])), (b1, .inl (cI, 4096, .inl g)), (b2, .inl (cJ, 4096, .inl (rf_p (rf_p (rf_p t (rf_bv g rl ps) 0 (y * rl)) (rf_tv g rl ps y j) (y * rl) (y * rl + rl)) (rf_tv g rl ps y (j + 1)) (y * rl) (y * rl + rl))))]) hP hD [0, 1, 2] [] rfl rfl (by decide) (by decide) hk1 hFc hP1 hD1
      generalize H1 = H at hP hS ⊢
      have hP : va_P (dC, dI) rw_cl [(h0, .inr (1, [.int 0, .int (nI rc), .int (nI rl), .int (nI ps), .ref b1, .ref b2])), (b1, .inl (cI, 4096, .inl g)), (b2, .inl (cJ, 4096, .inl (rf_p (rf_p (rf_p t (rf_bv g rl ps) 0 (y * rl)) (rf_tv g rl ps y j) (y * rl) (y * rl + rl)) (rf_tv g rl ps y (j + 1)) (y * rl) (y * rl + rl))))] H := hP
      have hD : va_D A [(h0, .inr (1, [.int 0, .int (nI rc), .int (nI rl), .int (nI ps), .ref b1, .ref b2])), (b1, .inl (cI, 4096, .inl g)), (b2, .inl (cJ, 4096, .inl (rf_p (rf_p (rf_p t (rf_bv g rl ps) 0 (y * rl)) (rf_tv g rl ps y j) (y * rl) (y * rl + rl)) (rf_tv g rl ps y (j + 1)) (y * rl) (y * rl + rl))))] := hD
      refine W.widen (k := 0) (n := 0) (Nat.le_refl _) (Nat.le_refl _) ?_
      rw [rf_p_over] at hP hD
      refine lv_istore hx hb dY1_best_43 hl (by decide) rfl (fun ls hl => ?_)
      have hl : lv_has ls 7 [(6, .int s1), (0, .ref h0), (1, .int (rf_v (fun y => rf_q g rl ps y) y)), (2, .int (nI y)), (3, .int (nI (rf_l (fun q => rf_s g rl ps y q rl) j).1)), (4, .int ((rf_l (fun q => rf_s g rl ps y q rl) j).2)), (5, .int (nI (j + 1)))] := hl
      refine lv_iload hx hb dY1_best_45 (lv_at hl 0 rfl) ?_
      refine lv_iload hx hb dY1_best_47 (lv_at hl 5 rfl) ?_
      refine lv_icmp_lt (tgt := 55) hx hb dY1_best_49 (by decide) (fun hs => ?_) (fun hs => ?_)
      · have hl2 : rf_l (fun q => rf_s g rl ps y q rl) (j + 1) = (j + 1, s1) := by rw [es]; exact rf_l_lt (by show rf_s g rl ps y (j + 1) rl < _; rw [← es]; exact hs)
        refine lv_iload hx hb dY1_best_55 (lv_at hl 0 rfl) ?_
        refine lv_istore hx hb dY1_best_57 hl (by decide) rfl (fun ls hl => ?_)
        have hl : lv_has ls 7 [(4, .int s1), (6, .int s1), (0, .ref h0), (1, .int (rf_v (fun y => rf_q g rl ps y) y)), (2, .int (nI y)), (3, .int (nI (rf_l (fun q => rf_s g rl ps y q rl) j).1)), (5, .int (nI (j + 1)))] := hl
        refine lv_iload hx hb dY1_best_59 (lv_at hl 6 rfl) ?_
        refine lv_istore_n hx hb dY1_best_61 rfl hl (by decide) rfl (fun ls hl => ?_)
        have hl : lv_has ls 7 [(3, .int (nI (j + 1))), (4, .int s1), (6, .int s1), (0, .ref h0), (1, .int (rf_v (fun y => rf_q g rl ps y) y)), (2, .int (nI y)), (5, .int (nI (j + 1)))] := hl
        refine lv_iinc (k := 6) (v := (nI (j + 1 + 1))) hx hb dY1_best_62 hl rfl (rf_inc (j + 1)) (by decide) rfl (fun ls hl => ?_)
        have hl : lv_has ls 7 [(5, .int (nI (j + 1 + 1))), (3, .int (nI (j + 1))), (4, .int s1), (6, .int s1), (0, .ref h0), (1, .int (rf_v (fun y => rf_q g rl ps y) y)), (2, .int (nI y))] := hl
        refine lv_goto (tgt := 30) hx hb dY1_best_65 (by decide) ?_
        exact ih (j + 1) _ _ _ (by show 4 - (j + 1) < 4 - j; omega) ⟨by omega, by rw [hl2]; exact lv_sub hl [4, 5, 6, 1, 2, 0] rfl, hP, hD, hS⟩
      · have hl2 : rf_l (fun q => rf_s g rl ps y q rl) (j + 1) = rf_l (fun q => rf_s g rl ps y q rl) j := rf_l_ge (by show ¬ rf_s g rl ps y (j + 1) rl < _; rw [← es]; exact hs)
        refine lv_goto (tgt := 62) hx hb dY1_best_52 (by decide) ?_
        refine lv_iinc (k := 6) (v := (nI (j + 1 + 1))) hx hb dY1_best_62 hl rfl (rf_inc (j + 1)) (by decide) rfl (fun ls hl => ?_)
        have hl : lv_has ls 7 [(5, .int (nI (j + 1 + 1))), (6, .int s1), (0, .ref h0), (1, .int (rf_v (fun y => rf_q g rl ps y) y)), (2, .int (nI y)), (3, .int (nI (rf_l (fun q => rf_s g rl ps y q rl) j).1)), (4, .int ((rf_l (fun q => rf_s g rl ps y q rl) j).2))] := hl
        refine lv_goto (tgt := 30) hx hb dY1_best_65 (by decide) ?_
        exact ih (j + 1) _ _ _ (by show 4 - (j + 1) < 4 - j; omega) ⟨by omega, by rw [hl2]; exact lv_sub hl [2, 3, 4, 5, 6, 0] rfl, hP, hD, hS⟩
end
section
set_option maxHeartbeats 4000000 in
set_option maxRecDepth 100000 in
theorem c_Y1_undo (l : Launch) (dC : Nat → ClassId) (dI : Nat → Nat → Nat) (cI cJ : ClassId) (h0 b1 b2 : Nat) (fl : Int32) (rc rl ps : Nat) (g t : Nat → Int32) (sz : Nat) (n : Nat) (ok : rf_ok rc rl ps) (hn : n ≤ 390624) : Met l yY1_undo wsY1_undo ({ frames := 3, cells := 0, slots := 0, locals := 75 }) (va_Pc [.ref h0, .int (nI n)] (rv_preD dC dI cI cJ h0 b1 b2 fl rc rl ps g t sz)) (va_Qv (fun _ : Unit => True) (fun _ t9 => rv_B dC dI cI cJ h0 b1 b2 0 rc rl ps (rf_D g rl ps n rc) t (va_A (rv_W h0 b1 b2 cI cJ fl rc rl ps g t) sz) t9) (va_A (rv_W h0 b1 b2 cI cJ fl rc rl ps g t) sz)) 0 0 (va_A (rv_W h0 b1 b2 cI cJ fl rc rl ps g t) sz) := by
  refine Met.ofW (cc := cY1_undo) (maxL := 4) (ret := none) (by decide) rfl ?_
  intro p e s m args below meth c s₁ B hml hv
  obtain ⟨rfl, hsz, hP, hK, hD0⟩ := hv
  have hx := B.exec
  have hb := B.bytes
  have hr := B.returns
  have hts := atoms_spec (ws := wsY1_undo) B.pre
  have hown : s.vm.findClass RX1 = some m.cls := findClass_of_methodNamed B.named
  have hlocks := B.notSynchronized
  subst hsz
  have hD := hD0.self (sz := s.heap.size)
  generalize hAe : va_A (rv_W h0 b1 b2 cI cJ fl rc rl ps g t) s.heap.size = A at hD ⊢
  have hA : ∀ q : Nat, s.heap.size ≤ q → A q := fun q h => by rw [← hAe]; exact Or.inr h
  have hS : va_S A s.heap s.heap [] := va_S.rf
  have hP : va_P (dC, dI) rw_cl (rv_W h0 b1 b2 cI cJ fl rc rl ps g t) s.heap := hP
  have hl := lv_entry ([.ref h0, .int (nI n)]) (n := 4) (Nat.le_of_ble_eq_true rfl)
  rw [lg_entry_eq]
  generalize (lg_sl ([.ref h0, .int (nI n)]) ++ List.replicate (4 - (lg_sl ([.ref h0, .int (nI n)])).length) Slot.unset).toArray = ls at hl ⊢
  have hl : lv_has ls 4 [(0, .ref h0), (1, .int (nI n))] := hl
  have h1 := ok.rc
  refine lv_aload_n hx hb dY1_undo_0 rfl (lv_at hl 0 rfl) ?_
  refine lv_iconst (v := 0) hx hb dY1_undo_1 (by decide) ?_
  refine va_put (D := (dC, dI)) (ci := 1) (v := .int 0) (ty := .int) (C := RX1) (T := TY1) (N := 6) hx hb hts (by decide +kernel) tyY1 tyY1_ok nmY1 hown hK hP hD hS 0 rfl rfl 0 (by decide) (hts (.fieldLink RX1 26 "RowFiltersModel" "failed" "I") (by decide +kernel)) (fun _ h9 => h9) rfl (by decide +kernel) rfl rfl (Nat.le_of_ble_eq_true rfl) dY1_undo_2 (fun H locs hP hD hS => ?_)
  have hP : va_P (dC, dI) rw_cl [(h0, .inr (1, [.int 0, .int (nI rc), .int (nI rl), .int (nI ps), .ref b1, .ref b2])), (b1, .inl (cI, 4096, .inl g)), (b2, .inl (cJ, 4096, .inl t))] H := hP
  have hD : va_D A [(h0, .inr (1, [.int 0, .int (nI rc), .int (nI rl), .int (nI ps), .ref b1, .ref b2])), (b1, .inl (cI, 4096, .inl g)), (b2, .inl (cJ, 4096, .inl t))] := hD
  refine lv_iload_n hx hb dY1_undo_5 rfl (lv_at hl 1 rfl) ?_
  refine lv_if_lt (tgt := 15) hx hb dY1_undo_6 (by decide) (fun q1 => ?_) (fun q1 => ?_)
  · exact absurd q1 (nI_pos (by omega))
  · refine lv_iload_n hx hb dY1_undo_9 rfl (lv_at hl 1 rfl) ?_
    refine lv_ldc hx hb hown (hts (.constant RX1 60 (390624)) (by decide +kernel)) dY1_undo_10 ?_
    refine lv_icmp_le (tgt := 23) hx hb dY1_undo_12 (by decide) (fun q2 => ?_) (fun q2 => ?_)
    · refine lv_iload_n hx hb dY1_undo_23 rfl (lv_at hl 1 rfl) ?_
      refine lv_istore_n hx hb dY1_undo_24 rfl hl (by decide) rfl (fun ls hl => ?_)
      have hl : lv_has ls 4 [(2, .int (nI n)), (0, .ref h0), (1, .int (nI n))] := hl
      refine lv_iconst (v := 0) hx hb dY1_undo_25 (by decide) ?_
      refine lv_istore_n hx hb dY1_undo_26 rfl hl (by decide) rfl (fun ls hl => ?_)
      have hl : lv_has ls 4 [(3, .int 0), (2, .int (nI n)), (0, .ref h0), (1, .int (nI n))] := hl
      have e0 : g = (rf_D g rl ps n (0)) := rfl
      rw [e0] at hP hD
      refine rw_loopH (fun y : Nat => rc - y) (fun y ls H locs => (y ≤ rc) ∧ lv_has ls 4 [(0, .ref h0), (1, .int (nI n)), (2, .int (nI (n / 5 ^ y))), (3, .int (nI y))] ∧ va_P (dC, dI) rw_cl [(h0, .inr (1, [.int 0, .int (nI rc), .int (nI rl), .int (nI ps), .ref b1, .ref b2])), (b1, .inl (cI, 4096, .inl (rf_D g rl ps n y))), (b2, .inl (cJ, 4096, .inl t))] H ∧ va_D A [(h0, .inr (1, [.int 0, .int (nI rc), .int (nI rl), .int (nI ps), .ref b1, .ref b2])), (b1, .inl (cI, 4096, .inl (rf_D g rl ps n y))), (b2, .inl (cJ, 4096, .inl t))] ∧ va_S A s.heap H locs) ?_ (0) ⟨Nat.zero_le _, by rw [Nat.pow_zero, Nat.div_one]; exact lv_sub hl [2, 3, 1, 0] rfl, hP, hD, hS⟩
      intro y ls H locs hI ih
      obtain ⟨hj, hl, hP, hD, hS⟩ := hI
      refine lv_iload_n hx hb dY1_undo_27 rfl (lv_at hl 3 rfl) ?_
      refine lv_aload_n hx hb dY1_undo_28 rfl (lv_at hl 0 rfl) ?_
      refine va_get (D := (dC, dI)) (ci := 1) (v := .int (nI rc)) (C := RX1) (T := TY1) (N := 6) hx hb hts (by decide +kernel) hown hK hP 0 rfl rfl 1 (by decide) (hts (.fieldLink RX1 7 "RowFiltersModel" "height" "I") (by decide +kernel)) (fun _ h9 => h9) rfl dY1_undo_29 ?_
      refine lv_icmp_ge (tgt := 53) hx hb dY1_undo_32 (by decide) (fun hc => ?_) (fun hc => ?_)
      · have hi : y = rc := by have := (nI_leI (by omega) (by omega)).mp hc; omega
        rw [hi] at hP hD
        exact W.vret hx hb hr (fun t ht hW => ⟨⟨(), rfl, trivial, by rw [ht]; exact hP, va_K.moved hW.alike hK, hD⟩, hS.F ht⟩) hS.2.2 dY1_undo_53
      · have hy : y < rc := Nat.lt_of_not_le (fun q => hc ((nI_leI (by omega) (by omega)).mpr q))
        have hd : n / 5 ^ y ≤ 390624 := Nat.le_trans (Nat.div_le_self _ _) hn
        have hm : n / 5 ^ y % 5 ≤ 4 := by omega
        refine lv_aload_n hx hb dY1_undo_35 rfl (lv_at hl 0 rfl) ?_
        refine lv_iload_n hx hb dY1_undo_36 rfl (lv_at hl 3 rfl) ?_
        refine lv_iload_n hx hb dY1_undo_37 rfl (lv_at hl 2 rfl) ?_
        refine lv_iconst (v := 5) hx hb dY1_undo_38 (by decide) ?_
        refine lv_irem hx hb dY1_undo_39 (by decide) ?_
        refine W.eq (g2 := F0 m 40 ls [.int (nI (n / 5 ^ y % 5)), .int (nI y), .ref h0]) (congrArg (fun z9 => F0 m 40 ls [.int z9, .int (nI y), .ref h0]) (show ((nI (n / 5 ^ y)) - (nI (n / 5 ^ y)) / 5 * 5) = nI (n / 5 ^ y % 5) from rf_rem (b := 5) (by omega) (by omega))) ?_
        have hFc := va_free (wc := [(h0, .inr (1, [.int 0, .int (nI rc), .int (nI rl), .int (nI ps), .ref b1, .ref b2])), (b1, .inl (cI, 4096, .inl (rf_D g rl ps n y))), (b2, .inl (cJ, 4096, .inl t))]) hD hS hA [0, 1, 2] rfl
        refine va_callv (va_runV (C := RX1) (As := [.int (nI y), .int (nI (n / 5 ^ y % 5))]) (rest := []) ⟨hx, hb, hml, hown, hts⟩ (c_Y1_untell l dC dI cI cJ h0 b1 b2 0 rc rl ps (rf_D g rl ps n y) t H.size y (n / 5 ^ y % 5) ok hy hm) (cwV 2 hts gY1_undo_Y1_untell rfl rfl rfl (by decide +kernel) ⟨Nat.le_of_ble_eq_true rfl, Nat.le_of_ble_eq_true rfl⟩) ⟨fun a U g mk q => by obtain ⟨q0, q1, qP, qK, qD⟩ := q; exact ⟨q0, q1, qP, va_K.moved (u := U) (U := U.calling g mk a) (Vm.Alike.refl U.vm) qK, qD⟩, va_recv hK hP (ci := 1) (q0 := 0) rfl rfl, fun U hU hW => ⟨rfl, by rw [hU], by rw [hU]; exact hP, va_K.moved hW.alike hK, hD.weaken (fun _ _ _ _ => trivial)⟩⟩ rfl rfl hl.1 rfl (lv_room (Nat.le_of_ble_eq_true rfl)) dY1_undo_40 ⟨Nat.zero_le _, Nat.zero_le _⟩) hS (fun q _ h => hFc q h) hFc (fun u t9 H1 locs ht hvm hw hB hz1 hk1 hS => ?_)
        obtain ⟨hP1, hK1, hD1⟩ := hB
        rw [ht] at hP1
        obtain ⟨hP, hD⟩ := va_join (wr := []) (w1 := [(h0, .inr (1, [.int 0, .int (nI rc), .int (nI rl), .int (nI ps), .ref b1, .ref b2])), (b1, .inl (cI, 4096, .inl (rf_U (rf_D g rl ps n y) rl ps y (n / 5 ^ y % 5) rl))), (b2, .inl (cJ, 4096, .inl t))]) hP hD [0, 1, 2] [] rfl rfl (by decide) (by decide) hk1 hFc hP1 hD1
        generalize H1 = H at hP hS ⊢
        have hP : va_P (dC, dI) rw_cl [(h0, .inr (1, [.int 0, .int (nI rc), .int (nI rl), .int (nI ps), .ref b1, .ref b2])), (b1, .inl (cI, 4096, .inl (rf_U (rf_D g rl ps n y) rl ps y (n / 5 ^ y % 5) rl))), (b2, .inl (cJ, 4096, .inl t))] H := hP
        have hD : va_D A [(h0, .inr (1, [.int 0, .int (nI rc), .int (nI rl), .int (nI ps), .ref b1, .ref b2])), (b1, .inl (cI, 4096, .inl (rf_U (rf_D g rl ps n y) rl ps y (n / 5 ^ y % 5) rl))), (b2, .inl (cJ, 4096, .inl t))] := hD
        refine W.widen (k := 0) (n := 0) (Nat.le_refl _) (Nat.le_refl _) ?_
        refine lv_iload_n hx hb dY1_undo_43 rfl (lv_at hl 2 rfl) ?_
        refine lv_iconst (v := 5) hx hb dY1_undo_44 (by decide) ?_
        refine lv_idiv hx hb dY1_undo_45 (by decide) ?_
        refine W.eq (g2 := F0 m 46 ls [.int (nI (n / 5 ^ (y + 1)))]) (congrArg (fun z9 => F0 m 46 ls [.int z9]) (show ((nI (n / 5 ^ y)) / 5) = nI (n / 5 ^ (y + 1)) from (rf_div (b := 5) (by omega) (by omega)).trans (by rw [Nat.div_div_eq_div_mul, ← Nat.pow_succ]))) ?_
        refine lv_istore_n hx hb dY1_undo_46 rfl hl (by decide) rfl (fun ls hl => ?_)
        have hl : lv_has ls 4 [(2, .int (nI (n / 5 ^ (y + 1)))), (0, .ref h0), (1, .int (nI n)), (3, .int (nI y))] := hl
        refine lv_iinc (k := 3) (v := (nI (y + 1))) hx hb dY1_undo_47 hl rfl (rf_inc y) (by decide) rfl (fun ls hl => ?_)
        have hl : lv_has ls 4 [(3, .int (nI (y + 1))), (2, .int (nI (n / 5 ^ (y + 1)))), (0, .ref h0), (1, .int (nI n))] := hl
        refine lv_goto (tgt := 27) hx hb dY1_undo_50 (by decide) ?_
        have e9 : (rf_U (rf_D g rl ps n y) rl ps y (n / 5 ^ y % 5) rl) = (rf_D g rl ps n (y + 1)) := rfl
        rw [e9] at hP hD
        exact ih (y + 1) _ _ _ (by show rc - (y + 1) < rc - y; omega) ⟨by omega, lv_sub hl [2, 3, 1, 0] rfl, hP, hD, hS⟩
    · exact absurd (Int32.not_le.mp q2) (nI_nlt (a := 390624) hn (by omega))
set_option maxHeartbeats 4000000 in
set_option maxRecDepth 100000 in
theorem c_Y1_undo_bad (l : Launch) (dC : Nat → ClassId) (dI : Nat → Nat → Nat) (cI cJ : ClassId) (h0 b1 b2 : Nat) (fl : Int32) (rc rl ps : Nat) (g t : Nat → Int32) (sz : Nat) (n : Int32) (hb0 : n < 0 ∨ 390624 < n) : Met l yY1_undo wsY1_undo ({ frames := 0, cells := 0, slots := 0, locals := 0 }) (va_Pc [.ref h0, .int n] (rv_preD dC dI cI cJ h0 b1 b2 fl rc rl ps g t sz)) (va_Qv (fun _ : Unit => True) (fun _ t9 => rv_B dC dI cI cJ h0 b1 b2 1 rc rl ps g t (va_A (rv_W h0 b1 b2 cI cJ fl rc rl ps g t) sz) t9) (va_A (rv_W h0 b1 b2 cI cJ fl rc rl ps g t) sz)) 0 0 (va_A (rv_W h0 b1 b2 cI cJ fl rc rl ps g t) sz) := by
  refine Met.ofW (cc := cY1_undo) (maxL := 4) (ret := none) (by decide) rfl ?_
  intro p e s m args below meth c s₁ B hml hv
  obtain ⟨rfl, hsz, hP, hK, hD0⟩ := hv
  have hx := B.exec
  have hb := B.bytes
  have hr := B.returns
  have hts := atoms_spec (ws := wsY1_undo) B.pre
  have hown : s.vm.findClass RX1 = some m.cls := findClass_of_methodNamed B.named
  have hlocks := B.notSynchronized
  subst hsz
  have hD := hD0.self (sz := s.heap.size)
  generalize hAe : va_A (rv_W h0 b1 b2 cI cJ fl rc rl ps g t) s.heap.size = A at hD ⊢
  have hA : ∀ q : Nat, s.heap.size ≤ q → A q := fun q h => by rw [← hAe]; exact Or.inr h
  have hS : va_S A s.heap s.heap [] := va_S.rf
  have hP : va_P (dC, dI) rw_cl (rv_W h0 b1 b2 cI cJ fl rc rl ps g t) s.heap := hP
  have hl := lv_entry ([.ref h0, .int n]) (n := 4) (Nat.le_of_ble_eq_true rfl)
  rw [lg_entry_eq]
  generalize (lg_sl ([.ref h0, .int n]) ++ List.replicate (4 - (lg_sl ([.ref h0, .int n])).length) Slot.unset).toArray = ls at hl ⊢
  have hl : lv_has ls 4 [(0, .ref h0), (1, .int n)] := hl
  refine lv_aload_n hx hb dY1_undo_0 rfl (lv_at hl 0 rfl) ?_
  refine lv_iconst (v := 0) hx hb dY1_undo_1 (by decide) ?_
  refine va_put (D := (dC, dI)) (ci := 1) (v := .int 0) (ty := .int) (C := RX1) (T := TY1) (N := 6) hx hb hts (by decide +kernel) tyY1 tyY1_ok nmY1 hown hK hP hD hS 0 rfl rfl 0 (by decide) (hts (.fieldLink RX1 26 "RowFiltersModel" "failed" "I") (by decide +kernel)) (fun _ h9 => h9) rfl (by decide +kernel) rfl rfl (Nat.le_of_ble_eq_true rfl) dY1_undo_2 (fun H locs hP hD hS => ?_)
  have hP : va_P (dC, dI) rw_cl [(h0, .inr (1, [.int 0, .int (nI rc), .int (nI rl), .int (nI ps), .ref b1, .ref b2])), (b1, .inl (cI, 4096, .inl g)), (b2, .inl (cJ, 4096, .inl t))] H := hP
  have hD : va_D A [(h0, .inr (1, [.int 0, .int (nI rc), .int (nI rl), .int (nI ps), .ref b1, .ref b2])), (b1, .inl (cI, 4096, .inl g)), (b2, .inl (cJ, 4096, .inl t))] := hD
  refine lv_iload_n hx hb dY1_undo_5 rfl (lv_at hl 1 rfl) ?_
  refine lv_if_lt (tgt := 15) hx hb dY1_undo_6 (by decide) (fun q1 => ?_) (fun q1 => ?_)
  · refine lv_aload_n hx hb dY1_undo_15 rfl (lv_at hl 0 rfl) ?_
    refine lv_iconst (v := 1) hx hb dY1_undo_16 (by decide) ?_
    refine va_put (D := (dC, dI)) (ci := 1) (v := .int 1) (ty := .int) (C := RX1) (T := TY1) (N := 6) hx hb hts (by decide +kernel) tyY1 tyY1_ok nmY1 hown hK hP hD hS 0 rfl rfl 0 (by decide) (hts (.fieldLink RX1 26 "RowFiltersModel" "failed" "I") (by decide +kernel)) (fun _ h9 => h9) rfl (by decide +kernel) rfl rfl (Nat.le_of_ble_eq_true rfl) dY1_undo_17 (fun H locs hP hD hS => ?_)
    have hP : va_P (dC, dI) rw_cl [(h0, .inr (1, [.int 1, .int (nI rc), .int (nI rl), .int (nI ps), .ref b1, .ref b2])), (b1, .inl (cI, 4096, .inl g)), (b2, .inl (cJ, 4096, .inl t))] H := hP
    have hD : va_D A [(h0, .inr (1, [.int 1, .int (nI rc), .int (nI rl), .int (nI ps), .ref b1, .ref b2])), (b1, .inl (cI, 4096, .inl g)), (b2, .inl (cJ, 4096, .inl t))] := hD
    refine lv_goto (tgt := 53) hx hb dY1_undo_20 (by decide) ?_
    exact W.vret hx hb hr (fun t ht hW => ⟨⟨(), rfl, trivial, by rw [ht]; exact hP, va_K.moved hW.alike hK, hD⟩, hS.F ht⟩) hS.2.2 dY1_undo_53
  · refine lv_iload_n hx hb dY1_undo_9 rfl (lv_at hl 1 rfl) ?_
    refine lv_ldc hx hb hown (hts (.constant RX1 60 (390624)) (by decide +kernel)) dY1_undo_10 ?_
    refine lv_icmp_le (tgt := 23) hx hb dY1_undo_12 (by decide) (fun q2 => ?_) (fun q2 => ?_)
    · exact absurd hb0 (by rintro (z | z); exact q1 z; exact Int32.not_lt.mpr q2 z)
    · refine lv_aload_n hx hb dY1_undo_15 rfl (lv_at hl 0 rfl) ?_
      refine lv_iconst (v := 1) hx hb dY1_undo_16 (by decide) ?_
      refine va_put (D := (dC, dI)) (ci := 1) (v := .int 1) (ty := .int) (C := RX1) (T := TY1) (N := 6) hx hb hts (by decide +kernel) tyY1 tyY1_ok nmY1 hown hK hP hD hS 0 rfl rfl 0 (by decide) (hts (.fieldLink RX1 26 "RowFiltersModel" "failed" "I") (by decide +kernel)) (fun _ h9 => h9) rfl (by decide +kernel) rfl rfl (Nat.le_of_ble_eq_true rfl) dY1_undo_17 (fun H locs hP hD hS => ?_)
      have hP : va_P (dC, dI) rw_cl [(h0, .inr (1, [.int 1, .int (nI rc), .int (nI rl), .int (nI ps), .ref b1, .ref b2])), (b1, .inl (cI, 4096, .inl g)), (b2, .inl (cJ, 4096, .inl t))] H := hP
      have hD : va_D A [(h0, .inr (1, [.int 1, .int (nI rc), .int (nI rl), .int (nI ps), .ref b1, .ref b2])), (b1, .inl (cI, 4096, .inl g)), (b2, .inl (cJ, 4096, .inl t))] := hD
      refine lv_goto (tgt := 53) hx hb dY1_undo_20 (by decide) ?_
      exact W.vret hx hb hr (fun t ht hW => ⟨⟨(), rfl, trivial, by rw [ht]; exact hP, va_K.moved hW.alike hK, hD⟩, hS.F ht⟩) hS.2.2 dY1_undo_53
end
section
set_option maxHeartbeats 4000000 in
set_option maxRecDepth 100000 in
theorem c_Y1_column (l : Launch) (dC : Nat → ClassId) (dI : Nat → Nat → Nat) (cI cJ : ClassId) (h0 b1 b2 : Nat) (fl : Int32) (rc rl ps : Nat) (g t : Nat → Int32) (k x : Nat) (hk : k ≤ 6) (hx9 : x ≤ 100000) : Met l yY1_column wsY1_column ({ frames := 0, cells := 0, slots := 0, locals := 0 }) (va_Pc [.ref h0, .int (nI k), .int (nI x)] (rv_pre dC dI cI cJ h0 b1 b2 fl rc rl ps g t)) (vp_Si (fun r => (x % rf_sx k = rf_fx k → r = 1) ∧ (¬ x % rf_sx k = rf_fx k → r = 0))) 0 0 (fun _ => False) := by
  refine Met.ofW (cc := cY1_column) (maxL := 3) (ret := (some .boolean)) (by decide) rfl ?_
  intro p e s m args below meth c s₁ B hml hv
  obtain ⟨rfl, hP, hK⟩ := hv
  have hx := B.exec
  have hb := B.bytes
  have hr := B.returns
  have hts := atoms_spec (ws := wsY1_column) B.pre
  have hown : s.vm.findClass RX1 = some m.cls := findClass_of_methodNamed B.named
  have hlocks := B.notSynchronized
  have hP : va_P (dC, dI) rw_cl (rv_W h0 b1 b2 cI cJ fl rc rl ps g t) s.heap := hP
  have hl := lv_entry ([.ref h0, .int (nI k), .int (nI x)]) (n := 3) (Nat.le_of_ble_eq_true rfl)
  rw [lg_entry_eq]
  generalize (lg_sl ([.ref h0, .int (nI k), .int (nI x)]) ++ List.replicate (3 - (lg_sl ([.ref h0, .int (nI k), .int (nI x)])).length) Slot.unset).toArray = ls at hl ⊢
  have hl : lv_has ls 3 [(0, .ref h0), (1, .int (nI k)), (2, .int (nI x))] := hl
  obtain rfl | rfl | rfl | rfl | rfl | rfl | rfl := rf_7 hk
  · refine lv_iload_n hx hb dY1_column_0 rfl (lv_at hl 1 rfl) ?_
    refine lv_tableIn (tgt := 44) hx hb dY1_column_1 (by decide +kernel) (by decide +kernel) rfl (by decide) ?_
    refine lv_iload_n hx hb dY1_column_44 rfl (lv_at hl 1 rfl) ?_
    refine lv_if_ne (tgt := 63) hx hb dY1_column_45 (by decide) (fun q0 => ?_) (fun q0 => ?_)
    · exact absurd q0 (by decide +kernel)
    · refine lv_iload_n hx hb dY1_column_48 rfl (lv_at hl 2 rfl) ?_
      refine lv_bipush (v := 8) hx hb dY1_column_49 (by decide) ?_
      refine lv_irem hx hb dY1_column_51 (by decide) ?_
      refine W.eq (g2 := F0 m 52 ls [.int (nI (x % 8))]) (congrArg (fun z9 => F0 m 52 ls [.int z9]) (show ((nI x) - (nI x) / 8 * 8) = nI (x % 8) from rf_rem (b := 8) (by omega) (by omega))) ?_
      refine lv_if_ne (tgt := 59) hx hb dY1_column_52 (by decide) (fun q1 => ?_) (fun q1 => ?_)
      · refine lv_iconst (v := 0) hx hb dY1_column_59 (by decide) ?_
        refine lv_goto (tgt := 102) hx hb dY1_column_60 (by decide) ?_
        exact W.zret (v := 0) hx hb hr rfl (fun t ht hW => ⟨0, rfl, ⟨fun q => absurd (show nI (x % 8) = nI 0 from congrArg nI q) q1, fun _ => rfl⟩, ht⟩) (fun q h => by cases h) dY1_column_102
      · refine lv_iconst (v := 1) hx hb dY1_column_55 (by decide) ?_
        refine lv_goto (tgt := 102) hx hb dY1_column_56 (by decide) ?_
        exact W.zret (v := 1) hx hb hr rfl (fun t ht hW => ⟨1, rfl, ⟨fun _ => rfl, fun q => absurd ((nI_eq (b := 0) (by omega) (by omega)).mp q1) q⟩, ht⟩) (fun q h => by cases h) dY1_column_102
  · refine lv_iload_n hx hb dY1_column_0 rfl (lv_at hl 1 rfl) ?_
    refine lv_tableIn (tgt := 103) hx hb dY1_column_1 (by decide +kernel) (by decide +kernel) rfl (by decide) ?_
    refine lv_iload_n hx hb dY1_column_103 rfl (lv_at hl 2 rfl) ?_
    refine lv_bipush (v := 8) hx hb dY1_column_104 (by decide) ?_
    refine lv_irem hx hb dY1_column_106 (by decide) ?_
    refine W.eq (g2 := F0 m 107 ls [.int (nI (x % 8))]) (congrArg (fun z9 => F0 m 107 ls [.int z9]) (show ((nI x) - (nI x) / 8 * 8) = nI (x % 8) from rf_rem (b := 8) (by omega) (by omega))) ?_
    refine lv_iconst (v := 4) hx hb dY1_column_107 (by decide) ?_
    refine lv_icmp_ne (tgt := 115) hx hb dY1_column_108 (by decide) (fun q0 => ?_) (fun q0 => ?_)
    · refine lv_iconst (v := 0) hx hb dY1_column_115 (by decide) ?_
      exact W.zret (v := 0) hx hb hr rfl (fun t ht hW => ⟨0, rfl, ⟨fun q => absurd (show nI (x % 8) = nI 4 from congrArg nI q) q0, fun _ => rfl⟩, ht⟩) (fun q h => by cases h) dY1_column_116
    · refine lv_iconst (v := 1) hx hb dY1_column_111 (by decide) ?_
      refine lv_goto (tgt := 116) hx hb dY1_column_112 (by decide) ?_
      exact W.zret (v := 1) hx hb hr rfl (fun t ht hW => ⟨1, rfl, ⟨fun _ => rfl, fun q => absurd ((nI_eq (b := 4) (by omega) (by omega)).mp q0) q⟩, ht⟩) (fun q h => by cases h) dY1_column_116
  · refine lv_iload_n hx hb dY1_column_0 rfl (lv_at hl 1 rfl) ?_
    refine lv_tableIn (tgt := 44) hx hb dY1_column_1 (by decide +kernel) (by decide +kernel) rfl (by decide) ?_
    refine lv_iload_n hx hb dY1_column_44 rfl (lv_at hl 1 rfl) ?_
    refine lv_if_ne (tgt := 63) hx hb dY1_column_45 (by decide) (fun q0 => ?_) (fun q0 => ?_)
    · refine lv_iload_n hx hb dY1_column_63 rfl (lv_at hl 1 rfl) ?_
      refine lv_iconst (v := 2) hx hb dY1_column_64 (by decide) ?_
      refine lv_icmp_ne (tgt := 82) hx hb dY1_column_65 (by decide) (fun q1 => ?_) (fun q1 => ?_)
      · exact absurd q1 (by decide +kernel)
      · refine lv_iload_n hx hb dY1_column_68 rfl (lv_at hl 2 rfl) ?_
        refine lv_iconst (v := 4) hx hb dY1_column_69 (by decide) ?_
        refine lv_irem hx hb dY1_column_70 (by decide) ?_
        refine W.eq (g2 := F0 m 71 ls [.int (nI (x % 4))]) (congrArg (fun z9 => F0 m 71 ls [.int z9]) (show ((nI x) - (nI x) / 4 * 4) = nI (x % 4) from rf_rem (b := 4) (by omega) (by omega))) ?_
        refine lv_if_ne (tgt := 78) hx hb dY1_column_71 (by decide) (fun q2 => ?_) (fun q2 => ?_)
        · refine lv_iconst (v := 0) hx hb dY1_column_78 (by decide) ?_
          refine lv_goto (tgt := 102) hx hb dY1_column_79 (by decide) ?_
          exact W.zret (v := 0) hx hb hr rfl (fun t ht hW => ⟨0, rfl, ⟨fun q => absurd (show nI (x % 4) = nI 0 from congrArg nI q) q2, fun _ => rfl⟩, ht⟩) (fun q h => by cases h) dY1_column_102
        · refine lv_iconst (v := 1) hx hb dY1_column_74 (by decide) ?_
          refine lv_goto (tgt := 102) hx hb dY1_column_75 (by decide) ?_
          exact W.zret (v := 1) hx hb hr rfl (fun t ht hW => ⟨1, rfl, ⟨fun _ => rfl, fun q => absurd ((nI_eq (b := 0) (by omega) (by omega)).mp q2) q⟩, ht⟩) (fun q h => by cases h) dY1_column_102
    · exact absurd q0 (by decide +kernel)
  · refine lv_iload_n hx hb dY1_column_0 rfl (lv_at hl 1 rfl) ?_
    refine lv_tableIn (tgt := 117) hx hb dY1_column_1 (by decide +kernel) (by decide +kernel) rfl (by decide) ?_
    refine lv_iload_n hx hb dY1_column_117 rfl (lv_at hl 2 rfl) ?_
    refine lv_iconst (v := 4) hx hb dY1_column_118 (by decide) ?_
    refine lv_irem hx hb dY1_column_119 (by decide) ?_
    refine W.eq (g2 := F0 m 120 ls [.int (nI (x % 4))]) (congrArg (fun z9 => F0 m 120 ls [.int z9]) (show ((nI x) - (nI x) / 4 * 4) = nI (x % 4) from rf_rem (b := 4) (by omega) (by omega))) ?_
    refine lv_iconst (v := 2) hx hb dY1_column_120 (by decide) ?_
    refine lv_icmp_ne (tgt := 128) hx hb dY1_column_121 (by decide) (fun q0 => ?_) (fun q0 => ?_)
    · refine lv_iconst (v := 0) hx hb dY1_column_128 (by decide) ?_
      exact W.zret (v := 0) hx hb hr rfl (fun t ht hW => ⟨0, rfl, ⟨fun q => absurd (show nI (x % 4) = nI 2 from congrArg nI q) q0, fun _ => rfl⟩, ht⟩) (fun q h => by cases h) dY1_column_129
    · refine lv_iconst (v := 1) hx hb dY1_column_124 (by decide) ?_
      refine lv_goto (tgt := 129) hx hb dY1_column_125 (by decide) ?_
      exact W.zret (v := 1) hx hb hr rfl (fun t ht hW => ⟨1, rfl, ⟨fun _ => rfl, fun q => absurd ((nI_eq (b := 2) (by omega) (by omega)).mp q0) q⟩, ht⟩) (fun q h => by cases h) dY1_column_129
  · refine lv_iload_n hx hb dY1_column_0 rfl (lv_at hl 1 rfl) ?_
    refine lv_tableIn (tgt := 44) hx hb dY1_column_1 (by decide +kernel) (by decide +kernel) rfl (by decide) ?_
    refine lv_iload_n hx hb dY1_column_44 rfl (lv_at hl 1 rfl) ?_
    refine lv_if_ne (tgt := 63) hx hb dY1_column_45 (by decide) (fun q0 => ?_) (fun q0 => ?_)
    · refine lv_iload_n hx hb dY1_column_63 rfl (lv_at hl 1 rfl) ?_
      refine lv_iconst (v := 2) hx hb dY1_column_64 (by decide) ?_
      refine lv_icmp_ne (tgt := 82) hx hb dY1_column_65 (by decide) (fun q1 => ?_) (fun q1 => ?_)
      · refine lv_iload_n hx hb dY1_column_82 rfl (lv_at hl 1 rfl) ?_
        refine lv_iconst (v := 4) hx hb dY1_column_83 (by decide) ?_
        refine lv_icmp_ne (tgt := 101) hx hb dY1_column_84 (by decide) (fun q2 => ?_) (fun q2 => ?_)
        · exact absurd q2 (by decide +kernel)
        · refine lv_iload_n hx hb dY1_column_87 rfl (lv_at hl 2 rfl) ?_
          refine lv_iconst (v := 2) hx hb dY1_column_88 (by decide) ?_
          refine lv_irem hx hb dY1_column_89 (by decide) ?_
          refine W.eq (g2 := F0 m 90 ls [.int (nI (x % 2))]) (congrArg (fun z9 => F0 m 90 ls [.int z9]) (show ((nI x) - (nI x) / 2 * 2) = nI (x % 2) from rf_rem (b := 2) (by omega) (by omega))) ?_
          refine lv_if_ne (tgt := 97) hx hb dY1_column_90 (by decide) (fun q3 => ?_) (fun q3 => ?_)
          · refine lv_iconst (v := 0) hx hb dY1_column_97 (by decide) ?_
            refine lv_goto (tgt := 102) hx hb dY1_column_98 (by decide) ?_
            exact W.zret (v := 0) hx hb hr rfl (fun t ht hW => ⟨0, rfl, ⟨fun q => absurd (show nI (x % 2) = nI 0 from congrArg nI q) q3, fun _ => rfl⟩, ht⟩) (fun q h => by cases h) dY1_column_102
          · refine lv_iconst (v := 1) hx hb dY1_column_93 (by decide) ?_
            refine lv_goto (tgt := 102) hx hb dY1_column_94 (by decide) ?_
            exact W.zret (v := 1) hx hb hr rfl (fun t ht hW => ⟨1, rfl, ⟨fun _ => rfl, fun q => absurd ((nI_eq (b := 0) (by omega) (by omega)).mp q3) q⟩, ht⟩) (fun q h => by cases h) dY1_column_102
      · exact absurd q1 (by decide +kernel)
    · exact absurd q0 (by decide +kernel)
  · refine lv_iload_n hx hb dY1_column_0 rfl (lv_at hl 1 rfl) ?_
    refine lv_tableIn (tgt := 130) hx hb dY1_column_1 (by decide +kernel) (by decide +kernel) rfl (by decide) ?_
    refine lv_iload_n hx hb dY1_column_130 rfl (lv_at hl 2 rfl) ?_
    refine lv_iconst (v := 2) hx hb dY1_column_131 (by decide) ?_
    refine lv_irem hx hb dY1_column_132 (by decide) ?_
    refine W.eq (g2 := F0 m 133 ls [.int (nI (x % 2))]) (congrArg (fun z9 => F0 m 133 ls [.int z9]) (show ((nI x) - (nI x) / 2 * 2) = nI (x % 2) from rf_rem (b := 2) (by omega) (by omega))) ?_
    refine lv_iconst (v := 1) hx hb dY1_column_133 (by decide) ?_
    refine lv_icmp_ne (tgt := 141) hx hb dY1_column_134 (by decide) (fun q0 => ?_) (fun q0 => ?_)
    · refine lv_iconst (v := 0) hx hb dY1_column_141 (by decide) ?_
      exact W.zret (v := 0) hx hb hr rfl (fun t ht hW => ⟨0, rfl, ⟨fun q => absurd (show nI (x % 2) = nI 1 from congrArg nI q) q0, fun _ => rfl⟩, ht⟩) (fun q h => by cases h) dY1_column_142
    · refine lv_iconst (v := 1) hx hb dY1_column_137 (by decide) ?_
      refine lv_goto (tgt := 142) hx hb dY1_column_138 (by decide) ?_
      exact W.zret (v := 1) hx hb hr rfl (fun t ht hW => ⟨1, rfl, ⟨fun _ => rfl, fun q => absurd ((nI_eq (b := 1) (by omega) (by omega)).mp q0) q⟩, ht⟩) (fun q h => by cases h) dY1_column_142
  · refine lv_iload_n hx hb dY1_column_0 rfl (lv_at hl 1 rfl) ?_
    refine lv_tableIn (tgt := 44) hx hb dY1_column_1 (by decide +kernel) (by decide +kernel) rfl (by decide) ?_
    refine lv_iload_n hx hb dY1_column_44 rfl (lv_at hl 1 rfl) ?_
    refine lv_if_ne (tgt := 63) hx hb dY1_column_45 (by decide) (fun q0 => ?_) (fun q0 => ?_)
    · refine lv_iload_n hx hb dY1_column_63 rfl (lv_at hl 1 rfl) ?_
      refine lv_iconst (v := 2) hx hb dY1_column_64 (by decide) ?_
      refine lv_icmp_ne (tgt := 82) hx hb dY1_column_65 (by decide) (fun q1 => ?_) (fun q1 => ?_)
      · refine lv_iload_n hx hb dY1_column_82 rfl (lv_at hl 1 rfl) ?_
        refine lv_iconst (v := 4) hx hb dY1_column_83 (by decide) ?_
        refine lv_icmp_ne (tgt := 101) hx hb dY1_column_84 (by decide) (fun q2 => ?_) (fun q2 => ?_)
        · refine lv_iconst (v := 1) hx hb dY1_column_101 (by decide) ?_
          exact W.zret (v := 1) hx hb hr rfl (fun t ht hW => ⟨1, rfl, ⟨fun _ => rfl, fun q => absurd (Nat.mod_one x) q⟩, ht⟩) (fun q h => by cases h) dY1_column_102
        · exact absurd q2 (by decide +kernel)
      · exact absurd q1 (by decide +kernel)
    · exact absurd q0 (by decide +kernel)
set_option maxHeartbeats 4000000 in
set_option maxRecDepth 100000 in
theorem c_Y1_line (l : Launch) (dC : Nat → ClassId) (dI : Nat → Nat → Nat) (cI cJ : ClassId) (h0 b1 b2 : Nat) (fl : Int32) (rc rl ps : Nat) (g t : Nat → Int32) (k x : Nat) (hk : k ≤ 6) (hx9 : x ≤ 100000) : Met l yY1_line wsY1_line ({ frames := 0, cells := 0, slots := 0, locals := 0 }) (va_Pc [.ref h0, .int (nI k), .int (nI x)] (rv_pre dC dI cI cJ h0 b1 b2 fl rc rl ps g t)) (vp_Si (fun r => (x % rf_sy k = rf_fy k → r = 1) ∧ (¬ x % rf_sy k = rf_fy k → r = 0))) 0 0 (fun _ => False) := by
  refine Met.ofW (cc := cY1_line) (maxL := 3) (ret := (some .boolean)) (by decide) rfl ?_
  intro p e s m args below meth c s₁ B hml hv
  obtain ⟨rfl, hP, hK⟩ := hv
  have hx := B.exec
  have hb := B.bytes
  have hr := B.returns
  have hts := atoms_spec (ws := wsY1_line) B.pre
  have hown : s.vm.findClass RX1 = some m.cls := findClass_of_methodNamed B.named
  have hlocks := B.notSynchronized
  have hP : va_P (dC, dI) rw_cl (rv_W h0 b1 b2 cI cJ fl rc rl ps g t) s.heap := hP
  have hl := lv_entry ([.ref h0, .int (nI k), .int (nI x)]) (n := 3) (Nat.le_of_ble_eq_true rfl)
  rw [lg_entry_eq]
  generalize (lg_sl ([.ref h0, .int (nI k), .int (nI x)]) ++ List.replicate (3 - (lg_sl ([.ref h0, .int (nI k), .int (nI x)])).length) Slot.unset).toArray = ls at hl ⊢
  have hl : lv_has ls 3 [(0, .ref h0), (1, .int (nI k)), (2, .int (nI x))] := hl
  obtain rfl | rfl | rfl | rfl | rfl | rfl | rfl := rf_7 hk
  · refine lv_iload_n hx hb dY1_line_0 rfl (lv_at hl 1 rfl) ?_
    refine lv_iconst (v := 2) hx hb dY1_line_1 (by decide) ?_
    refine lv_icmp_ge (tgt := 20) hx hb dY1_line_2 (by decide) (fun q0 => ?_) (fun q0 => ?_)
    · exact absurd q0 (by decide +kernel)
    · refine lv_iload_n hx hb dY1_line_5 rfl (lv_at hl 2 rfl) ?_
      refine lv_bipush (v := 8) hx hb dY1_line_6 (by decide) ?_
      refine lv_irem hx hb dY1_line_8 (by decide) ?_
      refine W.eq (g2 := F0 m 9 ls [.int (nI (x % 8))]) (congrArg (fun z9 => F0 m 9 ls [.int z9]) (show ((nI x) - (nI x) / 8 * 8) = nI (x % 8) from rf_rem (b := 8) (by omega) (by omega))) ?_
      refine lv_if_ne (tgt := 16) hx hb dY1_line_9 (by decide) (fun q1 => ?_) (fun q1 => ?_)
      · refine lv_iconst (v := 0) hx hb dY1_line_16 (by decide) ?_
        refine lv_goto (tgt := 111) hx hb dY1_line_17 (by decide) ?_
        exact W.zret (v := 0) hx hb hr rfl (fun t ht hW => ⟨0, rfl, ⟨fun q => absurd (show nI (x % 8) = nI 0 from congrArg nI q) q1, fun _ => rfl⟩, ht⟩) (fun q h => by cases h) dY1_line_111
      · refine lv_iconst (v := 1) hx hb dY1_line_12 (by decide) ?_
        refine lv_goto (tgt := 111) hx hb dY1_line_13 (by decide) ?_
        exact W.zret (v := 1) hx hb hr rfl (fun t ht hW => ⟨1, rfl, ⟨fun _ => rfl, fun q => absurd ((nI_eq (b := 0) (by omega) (by omega)).mp q1) q⟩, ht⟩) (fun q h => by cases h) dY1_line_111
  · refine lv_iload_n hx hb dY1_line_0 rfl (lv_at hl 1 rfl) ?_
    refine lv_iconst (v := 2) hx hb dY1_line_1 (by decide) ?_
    refine lv_icmp_ge (tgt := 20) hx hb dY1_line_2 (by decide) (fun q0 => ?_) (fun q0 => ?_)
    · exact absurd q0 (by decide +kernel)
    · refine lv_iload_n hx hb dY1_line_5 rfl (lv_at hl 2 rfl) ?_
      refine lv_bipush (v := 8) hx hb dY1_line_6 (by decide) ?_
      refine lv_irem hx hb dY1_line_8 (by decide) ?_
      refine W.eq (g2 := F0 m 9 ls [.int (nI (x % 8))]) (congrArg (fun z9 => F0 m 9 ls [.int z9]) (show ((nI x) - (nI x) / 8 * 8) = nI (x % 8) from rf_rem (b := 8) (by omega) (by omega))) ?_
      refine lv_if_ne (tgt := 16) hx hb dY1_line_9 (by decide) (fun q1 => ?_) (fun q1 => ?_)
      · refine lv_iconst (v := 0) hx hb dY1_line_16 (by decide) ?_
        refine lv_goto (tgt := 111) hx hb dY1_line_17 (by decide) ?_
        exact W.zret (v := 0) hx hb hr rfl (fun t ht hW => ⟨0, rfl, ⟨fun q => absurd (show nI (x % 8) = nI 0 from congrArg nI q) q1, fun _ => rfl⟩, ht⟩) (fun q h => by cases h) dY1_line_111
      · refine lv_iconst (v := 1) hx hb dY1_line_12 (by decide) ?_
        refine lv_goto (tgt := 111) hx hb dY1_line_13 (by decide) ?_
        exact W.zret (v := 1) hx hb hr rfl (fun t ht hW => ⟨1, rfl, ⟨fun _ => rfl, fun q => absurd ((nI_eq (b := 0) (by omega) (by omega)).mp q1) q⟩, ht⟩) (fun q h => by cases h) dY1_line_111
  · refine lv_iload_n hx hb dY1_line_0 rfl (lv_at hl 1 rfl) ?_
    refine lv_iconst (v := 2) hx hb dY1_line_1 (by decide) ?_
    refine lv_icmp_ge (tgt := 20) hx hb dY1_line_2 (by decide) (fun q0 => ?_) (fun q0 => ?_)
    · refine lv_iload_n hx hb dY1_line_20 rfl (lv_at hl 1 rfl) ?_
      refine lv_iconst (v := 2) hx hb dY1_line_21 (by decide) ?_
      refine lv_icmp_ne (tgt := 41) hx hb dY1_line_22 (by decide) (fun q1 => ?_) (fun q1 => ?_)
      · exact absurd q1 (by decide +kernel)
      · refine lv_iload_n hx hb dY1_line_25 rfl (lv_at hl 2 rfl) ?_
        refine lv_bipush (v := 8) hx hb dY1_line_26 (by decide) ?_
        refine lv_irem hx hb dY1_line_28 (by decide) ?_
        refine W.eq (g2 := F0 m 29 ls [.int (nI (x % 8))]) (congrArg (fun z9 => F0 m 29 ls [.int z9]) (show ((nI x) - (nI x) / 8 * 8) = nI (x % 8) from rf_rem (b := 8) (by omega) (by omega))) ?_
        refine lv_iconst (v := 4) hx hb dY1_line_29 (by decide) ?_
        refine lv_icmp_ne (tgt := 37) hx hb dY1_line_30 (by decide) (fun q2 => ?_) (fun q2 => ?_)
        · refine lv_iconst (v := 0) hx hb dY1_line_37 (by decide) ?_
          refine lv_goto (tgt := 111) hx hb dY1_line_38 (by decide) ?_
          exact W.zret (v := 0) hx hb hr rfl (fun t ht hW => ⟨0, rfl, ⟨fun q => absurd (show nI (x % 8) = nI 4 from congrArg nI q) q2, fun _ => rfl⟩, ht⟩) (fun q h => by cases h) dY1_line_111
        · refine lv_iconst (v := 1) hx hb dY1_line_33 (by decide) ?_
          refine lv_goto (tgt := 111) hx hb dY1_line_34 (by decide) ?_
          exact W.zret (v := 1) hx hb hr rfl (fun t ht hW => ⟨1, rfl, ⟨fun _ => rfl, fun q => absurd ((nI_eq (b := 4) (by omega) (by omega)).mp q2) q⟩, ht⟩) (fun q h => by cases h) dY1_line_111
    · exact absurd q0 (by decide +kernel)
  · refine lv_iload_n hx hb dY1_line_0 rfl (lv_at hl 1 rfl) ?_
    refine lv_iconst (v := 2) hx hb dY1_line_1 (by decide) ?_
    refine lv_icmp_ge (tgt := 20) hx hb dY1_line_2 (by decide) (fun q0 => ?_) (fun q0 => ?_)
    · refine lv_iload_n hx hb dY1_line_20 rfl (lv_at hl 1 rfl) ?_
      refine lv_iconst (v := 2) hx hb dY1_line_21 (by decide) ?_
      refine lv_icmp_ne (tgt := 41) hx hb dY1_line_22 (by decide) (fun q1 => ?_) (fun q1 => ?_)
      · refine lv_iload_n hx hb dY1_line_41 rfl (lv_at hl 1 rfl) ?_
        refine lv_iconst (v := 3) hx hb dY1_line_42 (by decide) ?_
        refine lv_icmp_ne (tgt := 60) hx hb dY1_line_43 (by decide) (fun q2 => ?_) (fun q2 => ?_)
        · exact absurd q2 (by decide +kernel)
        · refine lv_iload_n hx hb dY1_line_46 rfl (lv_at hl 2 rfl) ?_
          refine lv_iconst (v := 4) hx hb dY1_line_47 (by decide) ?_
          refine lv_irem hx hb dY1_line_48 (by decide) ?_
          refine W.eq (g2 := F0 m 49 ls [.int (nI (x % 4))]) (congrArg (fun z9 => F0 m 49 ls [.int z9]) (show ((nI x) - (nI x) / 4 * 4) = nI (x % 4) from rf_rem (b := 4) (by omega) (by omega))) ?_
          refine lv_if_ne (tgt := 56) hx hb dY1_line_49 (by decide) (fun q3 => ?_) (fun q3 => ?_)
          · refine lv_iconst (v := 0) hx hb dY1_line_56 (by decide) ?_
            refine lv_goto (tgt := 111) hx hb dY1_line_57 (by decide) ?_
            exact W.zret (v := 0) hx hb hr rfl (fun t ht hW => ⟨0, rfl, ⟨fun q => absurd (show nI (x % 4) = nI 0 from congrArg nI q) q3, fun _ => rfl⟩, ht⟩) (fun q h => by cases h) dY1_line_111
          · refine lv_iconst (v := 1) hx hb dY1_line_52 (by decide) ?_
            refine lv_goto (tgt := 111) hx hb dY1_line_53 (by decide) ?_
            exact W.zret (v := 1) hx hb hr rfl (fun t ht hW => ⟨1, rfl, ⟨fun _ => rfl, fun q => absurd ((nI_eq (b := 0) (by omega) (by omega)).mp q3) q⟩, ht⟩) (fun q h => by cases h) dY1_line_111
      · exact absurd q1 (by decide +kernel)
    · exact absurd q0 (by decide +kernel)
  · refine lv_iload_n hx hb dY1_line_0 rfl (lv_at hl 1 rfl) ?_
    refine lv_iconst (v := 2) hx hb dY1_line_1 (by decide) ?_
    refine lv_icmp_ge (tgt := 20) hx hb dY1_line_2 (by decide) (fun q0 => ?_) (fun q0 => ?_)
    · refine lv_iload_n hx hb dY1_line_20 rfl (lv_at hl 1 rfl) ?_
      refine lv_iconst (v := 2) hx hb dY1_line_21 (by decide) ?_
      refine lv_icmp_ne (tgt := 41) hx hb dY1_line_22 (by decide) (fun q1 => ?_) (fun q1 => ?_)
      · refine lv_iload_n hx hb dY1_line_41 rfl (lv_at hl 1 rfl) ?_
        refine lv_iconst (v := 3) hx hb dY1_line_42 (by decide) ?_
        refine lv_icmp_ne (tgt := 60) hx hb dY1_line_43 (by decide) (fun q2 => ?_) (fun q2 => ?_)
        · refine lv_iload_n hx hb dY1_line_60 rfl (lv_at hl 1 rfl) ?_
          refine lv_iconst (v := 4) hx hb dY1_line_61 (by decide) ?_
          refine lv_icmp_ne (tgt := 80) hx hb dY1_line_62 (by decide) (fun q3 => ?_) (fun q3 => ?_)
          · exact absurd q3 (by decide +kernel)
          · refine lv_iload_n hx hb dY1_line_65 rfl (lv_at hl 2 rfl) ?_
            refine lv_iconst (v := 4) hx hb dY1_line_66 (by decide) ?_
            refine lv_irem hx hb dY1_line_67 (by decide) ?_
            refine W.eq (g2 := F0 m 68 ls [.int (nI (x % 4))]) (congrArg (fun z9 => F0 m 68 ls [.int z9]) (show ((nI x) - (nI x) / 4 * 4) = nI (x % 4) from rf_rem (b := 4) (by omega) (by omega))) ?_
            refine lv_iconst (v := 2) hx hb dY1_line_68 (by decide) ?_
            refine lv_icmp_ne (tgt := 76) hx hb dY1_line_69 (by decide) (fun q4 => ?_) (fun q4 => ?_)
            · refine lv_iconst (v := 0) hx hb dY1_line_76 (by decide) ?_
              refine lv_goto (tgt := 111) hx hb dY1_line_77 (by decide) ?_
              exact W.zret (v := 0) hx hb hr rfl (fun t ht hW => ⟨0, rfl, ⟨fun q => absurd (show nI (x % 4) = nI 2 from congrArg nI q) q4, fun _ => rfl⟩, ht⟩) (fun q h => by cases h) dY1_line_111
            · refine lv_iconst (v := 1) hx hb dY1_line_72 (by decide) ?_
              refine lv_goto (tgt := 111) hx hb dY1_line_73 (by decide) ?_
              exact W.zret (v := 1) hx hb hr rfl (fun t ht hW => ⟨1, rfl, ⟨fun _ => rfl, fun q => absurd ((nI_eq (b := 2) (by omega) (by omega)).mp q4) q⟩, ht⟩) (fun q h => by cases h) dY1_line_111
        · exact absurd q2 (by decide +kernel)
      · exact absurd q1 (by decide +kernel)
    · exact absurd q0 (by decide +kernel)
  · refine lv_iload_n hx hb dY1_line_0 rfl (lv_at hl 1 rfl) ?_
    refine lv_iconst (v := 2) hx hb dY1_line_1 (by decide) ?_
    refine lv_icmp_ge (tgt := 20) hx hb dY1_line_2 (by decide) (fun q0 => ?_) (fun q0 => ?_)
    · refine lv_iload_n hx hb dY1_line_20 rfl (lv_at hl 1 rfl) ?_
      refine lv_iconst (v := 2) hx hb dY1_line_21 (by decide) ?_
      refine lv_icmp_ne (tgt := 41) hx hb dY1_line_22 (by decide) (fun q1 => ?_) (fun q1 => ?_)
      · refine lv_iload_n hx hb dY1_line_41 rfl (lv_at hl 1 rfl) ?_
        refine lv_iconst (v := 3) hx hb dY1_line_42 (by decide) ?_
        refine lv_icmp_ne (tgt := 60) hx hb dY1_line_43 (by decide) (fun q2 => ?_) (fun q2 => ?_)
        · refine lv_iload_n hx hb dY1_line_60 rfl (lv_at hl 1 rfl) ?_
          refine lv_iconst (v := 4) hx hb dY1_line_61 (by decide) ?_
          refine lv_icmp_ne (tgt := 80) hx hb dY1_line_62 (by decide) (fun q3 => ?_) (fun q3 => ?_)
          · refine lv_iload_n hx hb dY1_line_80 rfl (lv_at hl 1 rfl) ?_
            refine lv_iconst (v := 5) hx hb dY1_line_81 (by decide) ?_
            refine lv_icmp_ne (tgt := 99) hx hb dY1_line_82 (by decide) (fun q4 => ?_) (fun q4 => ?_)
            · exact absurd q4 (by decide +kernel)
            · refine lv_iload_n hx hb dY1_line_85 rfl (lv_at hl 2 rfl) ?_
              refine lv_iconst (v := 2) hx hb dY1_line_86 (by decide) ?_
              refine lv_irem hx hb dY1_line_87 (by decide) ?_
              refine W.eq (g2 := F0 m 88 ls [.int (nI (x % 2))]) (congrArg (fun z9 => F0 m 88 ls [.int z9]) (show ((nI x) - (nI x) / 2 * 2) = nI (x % 2) from rf_rem (b := 2) (by omega) (by omega))) ?_
              refine lv_if_ne (tgt := 95) hx hb dY1_line_88 (by decide) (fun q5 => ?_) (fun q5 => ?_)
              · refine lv_iconst (v := 0) hx hb dY1_line_95 (by decide) ?_
                refine lv_goto (tgt := 111) hx hb dY1_line_96 (by decide) ?_
                exact W.zret (v := 0) hx hb hr rfl (fun t ht hW => ⟨0, rfl, ⟨fun q => absurd (show nI (x % 2) = nI 0 from congrArg nI q) q5, fun _ => rfl⟩, ht⟩) (fun q h => by cases h) dY1_line_111
              · refine lv_iconst (v := 1) hx hb dY1_line_91 (by decide) ?_
                refine lv_goto (tgt := 111) hx hb dY1_line_92 (by decide) ?_
                exact W.zret (v := 1) hx hb hr rfl (fun t ht hW => ⟨1, rfl, ⟨fun _ => rfl, fun q => absurd ((nI_eq (b := 0) (by omega) (by omega)).mp q5) q⟩, ht⟩) (fun q h => by cases h) dY1_line_111
          · exact absurd q3 (by decide +kernel)
        · exact absurd q2 (by decide +kernel)
      · exact absurd q1 (by decide +kernel)
    · exact absurd q0 (by decide +kernel)
  · refine lv_iload_n hx hb dY1_line_0 rfl (lv_at hl 1 rfl) ?_
    refine lv_iconst (v := 2) hx hb dY1_line_1 (by decide) ?_
    refine lv_icmp_ge (tgt := 20) hx hb dY1_line_2 (by decide) (fun q0 => ?_) (fun q0 => ?_)
    · refine lv_iload_n hx hb dY1_line_20 rfl (lv_at hl 1 rfl) ?_
      refine lv_iconst (v := 2) hx hb dY1_line_21 (by decide) ?_
      refine lv_icmp_ne (tgt := 41) hx hb dY1_line_22 (by decide) (fun q1 => ?_) (fun q1 => ?_)
      · refine lv_iload_n hx hb dY1_line_41 rfl (lv_at hl 1 rfl) ?_
        refine lv_iconst (v := 3) hx hb dY1_line_42 (by decide) ?_
        refine lv_icmp_ne (tgt := 60) hx hb dY1_line_43 (by decide) (fun q2 => ?_) (fun q2 => ?_)
        · refine lv_iload_n hx hb dY1_line_60 rfl (lv_at hl 1 rfl) ?_
          refine lv_iconst (v := 4) hx hb dY1_line_61 (by decide) ?_
          refine lv_icmp_ne (tgt := 80) hx hb dY1_line_62 (by decide) (fun q3 => ?_) (fun q3 => ?_)
          · refine lv_iload_n hx hb dY1_line_80 rfl (lv_at hl 1 rfl) ?_
            refine lv_iconst (v := 5) hx hb dY1_line_81 (by decide) ?_
            refine lv_icmp_ne (tgt := 99) hx hb dY1_line_82 (by decide) (fun q4 => ?_) (fun q4 => ?_)
            · refine lv_iload_n hx hb dY1_line_99 rfl (lv_at hl 2 rfl) ?_
              refine lv_iconst (v := 2) hx hb dY1_line_100 (by decide) ?_
              refine lv_irem hx hb dY1_line_101 (by decide) ?_
              refine W.eq (g2 := F0 m 102 ls [.int (nI (x % 2))]) (congrArg (fun z9 => F0 m 102 ls [.int z9]) (show ((nI x) - (nI x) / 2 * 2) = nI (x % 2) from rf_rem (b := 2) (by omega) (by omega))) ?_
              refine lv_iconst (v := 1) hx hb dY1_line_102 (by decide) ?_
              refine lv_icmp_ne (tgt := 110) hx hb dY1_line_103 (by decide) (fun q5 => ?_) (fun q5 => ?_)
              · refine lv_iconst (v := 0) hx hb dY1_line_110 (by decide) ?_
                exact W.zret (v := 0) hx hb hr rfl (fun t ht hW => ⟨0, rfl, ⟨fun q => absurd (show nI (x % 2) = nI 1 from congrArg nI q) q5, fun _ => rfl⟩, ht⟩) (fun q h => by cases h) dY1_line_111
              · refine lv_iconst (v := 1) hx hb dY1_line_106 (by decide) ?_
                refine lv_goto (tgt := 111) hx hb dY1_line_107 (by decide) ?_
                exact W.zret (v := 1) hx hb hr rfl (fun t ht hW => ⟨1, rfl, ⟨fun _ => rfl, fun q => absurd ((nI_eq (b := 1) (by omega) (by omega)).mp q5) q⟩, ht⟩) (fun q h => by cases h) dY1_line_111
            · exact absurd q4 (by decide +kernel)
          · exact absurd q3 (by decide +kernel)
        · exact absurd q2 (by decide +kernel)
      · exact absurd q1 (by decide +kernel)
    · exact absurd q0 (by decide +kernel)
end
section
set_option maxHeartbeats 4000000 in
set_option maxRecDepth 100000 in
theorem c_Y1_pass (l : Launch) (dC : Nat → ClassId) (dI : Nat → Nat → Nat) (cI cJ : ClassId) (h0 b1 b2 : Nat) (fl : Int32) (rc rl ps : Nat) (g t : Nat → Int32) (sz : Nat) (k w h : Nat) (b : Int32) (hk : k ≤ 6) (hw1 : 1 ≤ w) (hw2 : w ≤ 100000) (hh1 : 1 ≤ h) (hh2 : h ≤ 100000) : Met l yY1_pass wsY1_pass ({ frames := 1, cells := 0, slots := 0, locals := 22 }) (va_Pc [.ref h0, .int (nI k), .int (nI w), .int (nI h), .int b] (rv_preD dC dI cI cJ h0 b1 b2 fl rc rl ps g t sz)) (va_Qi (fun (r : Int32) (_ : Unit) => r = rf_pr k w h b) (fun _ t9 => rv_B dC dI cI cJ h0 b1 b2 0 rc rl ps g t (va_A (rv_W h0 b1 b2 cI cJ fl rc rl ps g t) sz) t9) (va_A (rv_W h0 b1 b2 cI cJ fl rc rl ps g t) sz)) 0 0 (va_A (rv_W h0 b1 b2 cI cJ fl rc rl ps g t) sz) := by
  refine Met.ofW (cc := cY1_pass) (maxL := 8) (ret := (some .int)) (by decide) rfl ?_
  intro p e s m args below meth c s₁ B hml hv
  obtain ⟨rfl, hsz, hP, hK, hD0⟩ := hv
  have hx := B.exec
  have hb := B.bytes
  have hr := B.returns
  have hts := atoms_spec (ws := wsY1_pass) B.pre
  have hown : s.vm.findClass RX1 = some m.cls := findClass_of_methodNamed B.named
  have hlocks := B.notSynchronized
  subst hsz
  have hD := hD0.self (sz := s.heap.size)
  generalize hAe : va_A (rv_W h0 b1 b2 cI cJ fl rc rl ps g t) s.heap.size = A at hD ⊢
  have hA : ∀ q : Nat, s.heap.size ≤ q → A q := fun q h => by rw [← hAe]; exact Or.inr h
  have hS : va_S A s.heap s.heap [] := va_S.rf
  have hP : va_P (dC, dI) rw_cl (rv_W h0 b1 b2 cI cJ fl rc rl ps g t) s.heap := hP
  have hl := lv_entry ([.ref h0, .int (nI k), .int (nI w), .int (nI h), .int b]) (n := 8) (Nat.le_of_ble_eq_true rfl)
  rw [lg_entry_eq]
  generalize (lg_sl ([.ref h0, .int (nI k), .int (nI w), .int (nI h), .int b]) ++ List.replicate (8 - (lg_sl ([.ref h0, .int (nI k), .int (nI w), .int (nI h), .int b])).length) Slot.unset).toArray = ls at hl ⊢
  have hl : lv_has ls 8 [(0, .ref h0), (1, .int (nI k)), (2, .int (nI w)), (3, .int (nI h)), (4, .int b)] := hl
  refine lv_aload_n hx hb dY1_pass_0 rfl (lv_at hl 0 rfl) ?_
  refine lv_iconst (v := 0) hx hb dY1_pass_1 (by decide) ?_
  refine va_put (D := (dC, dI)) (ci := 1) (v := .int 0) (ty := .int) (C := RX1) (T := TY1) (N := 6) hx hb hts (by decide +kernel) tyY1 tyY1_ok nmY1 hown hK hP hD hS 0 rfl rfl 0 (by decide) (hts (.fieldLink RX1 26 "RowFiltersModel" "failed" "I") (by decide +kernel)) (fun _ h9 => h9) rfl (by decide +kernel) rfl rfl (Nat.le_of_ble_eq_true rfl) dY1_pass_2 (fun H locs hP hD hS => ?_)
  have hP : va_P (dC, dI) rw_cl [(h0, .inr (1, [.int 0, .int (nI rc), .int (nI rl), .int (nI ps), .ref b1, .ref b2])), (b1, .inl (cI, 4096, .inl g)), (b2, .inl (cJ, 4096, .inl t))] H := hP
  have hD : va_D A [(h0, .inr (1, [.int 0, .int (nI rc), .int (nI rl), .int (nI ps), .ref b1, .ref b2])), (b1, .inl (cI, 4096, .inl g)), (b2, .inl (cJ, 4096, .inl t))] := hD
  refine lv_iload_n hx hb dY1_pass_5 rfl (lv_at hl 1 rfl) ?_
  refine lv_if_lt (tgt := 37) hx hb dY1_pass_6 (by decide) (fun q0 => ?_) (fun q0 => ?_)
  · exact absurd q0 (nI_pos (by omega))
  · refine lv_iload_n hx hb dY1_pass_9 rfl (lv_at hl 1 rfl) ?_
    refine lv_bipush (v := 6) hx hb dY1_pass_10 (by decide) ?_
    refine lv_icmp_gt (tgt := 37) hx hb dY1_pass_12 (by decide) (fun q1 => ?_) (fun q1 => ?_)
    · exact absurd q1 (nI_nlt (a := 6) hk (by omega))
    · refine lv_iload_n hx hb dY1_pass_15 rfl (lv_at hl 2 rfl) ?_
      refine lv_iconst (v := 1) hx hb dY1_pass_16 (by decide) ?_
      refine lv_icmp_lt (tgt := 37) hx hb dY1_pass_17 (by decide) (fun q2 => ?_) (fun q2 => ?_)
      · exact absurd q2 (nI_nlt (b := 1) hw1 (by omega))
      · refine lv_iload_n hx hb dY1_pass_20 rfl (lv_at hl 2 rfl) ?_
        refine lv_ldc hx hb hown (hts (.constant RX1 61 (100000)) (by decide +kernel)) dY1_pass_21 ?_
        refine lv_icmp_gt (tgt := 37) hx hb dY1_pass_23 (by decide) (fun q3 => ?_) (fun q3 => ?_)
        · exact absurd q3 (nI_nlt (a := 100000) hw2 (by omega))
        · refine lv_iload_n hx hb dY1_pass_26 rfl (lv_at hl 3 rfl) ?_
          refine lv_iconst (v := 1) hx hb dY1_pass_27 (by decide) ?_
          refine lv_icmp_lt (tgt := 37) hx hb dY1_pass_28 (by decide) (fun q4 => ?_) (fun q4 => ?_)
          · exact absurd q4 (nI_nlt (b := 1) hh1 (by omega))
          · refine lv_iload_n hx hb dY1_pass_31 rfl (lv_at hl 3 rfl) ?_
            refine lv_ldc hx hb hown (hts (.constant RX1 61 (100000)) (by decide +kernel)) dY1_pass_32 ?_
            refine lv_icmp_le (tgt := 43) hx hb dY1_pass_34 (by decide) (fun q5 => ?_) (fun q5 => ?_)
            · refine lv_iconst (v := 0) hx hb dY1_pass_43 (by decide) ?_
              refine lv_istore hx hb dY1_pass_44 hl (by decide) rfl (fun ls hl => ?_)
              have hl : lv_has ls 8 [(5, .int 0), (0, .ref h0), (1, .int (nI k)), (2, .int (nI w)), (3, .int (nI h)), (4, .int b)] := hl
              refine lv_iconst (v := 0) hx hb dY1_pass_46 (by decide) ?_
              refine lv_istore hx hb dY1_pass_47 hl (by decide) rfl (fun ls hl => ?_)
              have hl : lv_has ls 8 [(6, .int 0), (5, .int 0), (0, .ref h0), (1, .int (nI k)), (2, .int (nI w)), (3, .int (nI h)), (4, .int b)] := hl
              refine lv_iconst (v := 0) hx hb dY1_pass_49 (by decide) ?_
              refine lv_istore hx hb dY1_pass_50 hl (by decide) rfl (fun ls hl => ?_)
              have hl : lv_has ls 8 [(7, .int 0), (6, .int 0), (5, .int 0), (0, .ref h0), (1, .int (nI k)), (2, .int (nI w)), (3, .int (nI h)), (4, .int b)] := hl
              refine rw_loop (fun j : Nat => w - j) (fun j ls => (j ≤ w) ∧ lv_has ls 8 [(0, .ref h0), (1, .int (nI k)), (2, .int (nI w)), (3, .int (nI h)), (4, .int b), (5, .int (nI (rf_n (rf_sx k) (rf_fx k) j))), (6, .int 0), (7, .int (nI j))]) ?_ (0) ⟨Nat.zero_le _, lv_sub hl [3, 4, 5, 6, 7, 2, 1, 0] rfl⟩
              intro j ls hI ih
              obtain ⟨hj, hl⟩ := hI
              refine lv_iload hx hb dY1_pass_52 (lv_at hl 7 rfl) ?_
              refine lv_iload_n hx hb dY1_pass_54 rfl (lv_at hl 2 rfl) ?_
              refine lv_icmp_ge (tgt := 84) hx hb dY1_pass_55 (by decide) (fun hc0 => ?_) (fun hc0 => ?_)
              · have hi : j = w := by have := (nI_leI (by omega) (by omega)).mp hc0; omega
                rw [hi] at hl
                have hl : lv_has ls 8 [(0, .ref h0), (1, .int (nI k)), (2, .int (nI w)), (3, .int (nI h)), (4, .int b), (5, .int (nI (rf_n (rf_sx k) (rf_fx k) w))), (6, .int 0), (7, .int (nI w))] := hl
                refine lv_iconst (v := 0) hx hb dY1_pass_84 (by decide) ?_
                refine lv_istore hx hb dY1_pass_85 hl (by decide) rfl (fun ls hl => ?_)
                have hl : lv_has ls 8 [(7, .int 0), (0, .ref h0), (1, .int (nI k)), (2, .int (nI w)), (3, .int (nI h)), (4, .int b), (5, .int (nI (rf_n (rf_sx k) (rf_fx k) w))), (6, .int 0)] := hl
                refine rw_loop (fun j : Nat => h - j) (fun j ls => (j ≤ h) ∧ lv_has ls 8 [(0, .ref h0), (1, .int (nI k)), (2, .int (nI w)), (3, .int (nI h)), (4, .int b), (5, .int (nI (rf_n (rf_sx k) (rf_fx k) w))), (6, .int (nI (rf_n (rf_sy k) (rf_fy k) j))), (7, .int (nI j))]) ?_ (0) ⟨Nat.zero_le _, lv_sub hl [1, 2, 3, 4, 5, 6, 7, 0] rfl⟩
                intro j ls hI ih
                obtain ⟨hj, hl⟩ := hI
                refine lv_iload hx hb dY1_pass_87 (lv_at hl 7 rfl) ?_
                refine lv_iload_n hx hb dY1_pass_89 rfl (lv_at hl 3 rfl) ?_
                refine lv_icmp_ge (tgt := 119) hx hb dY1_pass_90 (by decide) (fun hc1 => ?_) (fun hc1 => ?_)
                · have hi : j = h := by have := (nI_leI (by omega) (by omega)).mp hc1; omega
                  rw [hi] at hl
                  have hl : lv_has ls 8 [(0, .ref h0), (1, .int (nI k)), (2, .int (nI w)), (3, .int (nI h)), (4, .int b), (5, .int (nI (rf_n (rf_sx k) (rf_fx k) w))), (6, .int (nI (rf_n (rf_sy k) (rf_fy k) h))), (7, .int (nI h))] := hl
                  have hx1 := rf_n_le (rf_sx k) (rf_fx k) w
                  have hy1 := rf_n_le (rf_sy k) (rf_fy k) h
                  refine lv_iload hx hb dY1_pass_119 (lv_at hl 5 rfl) ?_
                  refine lv_if_eq (tgt := 129) hx hb dY1_pass_121 (by decide) (fun z1 => ?_) (fun z1 => ?_)
                  · refine lv_iconst (v := 0) hx hb dY1_pass_129 (by decide) ?_
                    refine lv_goto (tgt := 145) hx hb dY1_pass_130 (by decide) ?_
                    exact W.iret (v := 0) hx hb hr (fun t ht hW => ⟨⟨0, (), rfl, by rw [rf_pr, if_pos ((rf_n0 (by omega)).mp z1)], by rw [ht]; exact hP, va_K.moved hW.alike hK, hD⟩, hS.F ht⟩) hS.2.2 dY1_pass_145
                  · refine lv_iload hx hb dY1_pass_124 (lv_at hl 6 rfl) ?_
                    refine lv_if_ne (tgt := 133) hx hb dY1_pass_126 (by decide) (fun z2 => ?_) (fun z2 => ?_)
                    · refine lv_iload hx hb dY1_pass_133 (lv_at hl 4 rfl) ?_
                      refine lv_if_eq (tgt := 143) hx hb dY1_pass_135 (by decide) (fun z3 => ?_) (fun z3 => ?_)
                      · refine lv_iload hx hb dY1_pass_143 (lv_at hl 5 rfl) ?_
                        exact W.iret (v := (nI (rf_n (rf_sx k) (rf_fx k) w))) hx hb hr (fun t ht hW => ⟨⟨(nI (rf_n (rf_sx k) (rf_fx k) w)), (), rfl, by rw [rf_pr, if_neg (fun q => z1 ((rf_n0 (by omega)).mpr q)), if_neg (fun q => z2 ((rf_n0 (by omega)).mpr q)), if_pos z3], by rw [ht]; exact hP, va_K.moved hW.alike hK, hD⟩, hS.F ht⟩) hS.2.2 dY1_pass_145
                      · refine lv_iload hx hb dY1_pass_138 (lv_at hl 6 rfl) ?_
                        refine lv_goto (tgt := 145) hx hb dY1_pass_140 (by decide) ?_
                        exact W.iret (v := (nI (rf_n (rf_sy k) (rf_fy k) h))) hx hb hr (fun t ht hW => ⟨⟨(nI (rf_n (rf_sy k) (rf_fy k) h)), (), rfl, by rw [rf_pr, if_neg (fun q => z1 ((rf_n0 (by omega)).mpr q)), if_neg (fun q => z2 ((rf_n0 (by omega)).mpr q)), if_neg z3], by rw [ht]; exact hP, va_K.moved hW.alike hK, hD⟩, hS.F ht⟩) hS.2.2 dY1_pass_145
                    · refine lv_iconst (v := 0) hx hb dY1_pass_129 (by decide) ?_
                      refine lv_goto (tgt := 145) hx hb dY1_pass_130 (by decide) ?_
                      exact W.iret (v := 0) hx hb hr (fun t ht hW => ⟨⟨0, (), rfl, by rw [rf_pr, if_neg (fun q => z1 ((rf_n0 (by omega)).mpr q)), if_pos ((rf_n0 (by omega)).mp z2)], by rw [ht]; exact hP, va_K.moved hW.alike hK, hD⟩, hS.F ht⟩) hS.2.2 dY1_pass_145
                · have hi : j < h := Nat.lt_of_not_le (fun q => hc1 ((nI_leI (by omega) (by omega)).mpr q))
                  refine lv_iload hx hb dY1_pass_93 (lv_at hl 6 rfl) ?_
                  refine lv_aload_n hx hb dY1_pass_95 rfl (lv_at hl 0 rfl) ?_
                  refine lv_iload_n hx hb dY1_pass_96 rfl (lv_at hl 1 rfl) ?_
                  refine lv_iload hx hb dY1_pass_97 (lv_at hl 7 rfl) ?_
                  refine vp_callSi (W.runV (C := RX1) (As := [.int (nI k), .int (nI j)]) (rest := [.int (nI (rf_n (rf_sy k) (rf_fy k) j))]) ⟨hx, hb, hml, hown, hts⟩ (c_Y1_line l dC dI cI cJ h0 b1 b2 0 rc rl ps g t k j hk (by omega)) (cwV 2 hts gY1_pass_Y1_line rfl rfl rfl (by decide +kernel) ⟨Nat.le_of_ble_eq_true rfl, Nat.le_of_ble_eq_true rfl⟩) ⟨fun a U g mk q => by obtain ⟨q0, qP, qK⟩ := q; exact ⟨q0, qP, va_K.moved (u := U) (U := U.calling g mk a) (Vm.Alike.refl U.vm) qK⟩, va_recv hK hP (ci := 1) (q0 := 0) rfl rfl, fun U hU hW => ⟨rfl, by rw [hU]; exact hP, va_K.moved hW.alike hK⟩⟩ rfl rfl hl.1 rfl (lv_room (Nat.le_of_ble_eq_true rfl)) dY1_pass_99 ⟨Nat.zero_le _, Nat.zero_le _⟩) (fun rc9 ec => ?_)
                  refine lv_if_eq (tgt := 109) hx hb dY1_pass_102 (by decide) (fun hz => ?_) (fun hz => ?_)
                  · have e9 : rf_n (rf_sy k) (rf_fy k) (j + 1) = rf_n (rf_sy k) (rf_fy k) j := rf_n_f (fun q => absurd ((ec.1 q).symm.trans hz) (by decide))
                    refine lv_iconst (v := 0) hx hb dY1_pass_109 (by decide) ?_
                    refine lv_iadd hx hb dY1_pass_110 ?_
                    refine W.eq (g2 := F0 m 111 ls [.int (nI (rf_n (rf_sy k) (rf_fy k) (j + 1)))]) (congrArg (fun z9 => F0 m 111 ls [.int z9]) (show ((nI (rf_n (rf_sy k) (rf_fy k) j)) + 0) = nI (rf_n (rf_sy k) (rf_fy k) (j + 1)) from by rw [e9]; exact Int32.add_zero _)) ?_
                    refine lv_istore hx hb dY1_pass_111 hl (by decide) rfl (fun ls hl => ?_)
                    have hl : lv_has ls 8 [(6, .int (nI (rf_n (rf_sy k) (rf_fy k) (j + 1)))), (0, .ref h0), (1, .int (nI k)), (2, .int (nI w)), (3, .int (nI h)), (4, .int b), (5, .int (nI (rf_n (rf_sx k) (rf_fx k) w))), (7, .int (nI j))] := hl
                    refine lv_iinc (k := 7) (v := (nI (j + 1))) hx hb dY1_pass_113 hl rfl (rf_inc j) (by decide) rfl (fun ls hl => ?_)
                    have hl : lv_has ls 8 [(7, .int (nI (j + 1))), (6, .int (nI (rf_n (rf_sy k) (rf_fy k) (j + 1)))), (0, .ref h0), (1, .int (nI k)), (2, .int (nI w)), (3, .int (nI h)), (4, .int b), (5, .int (nI (rf_n (rf_sx k) (rf_fx k) w)))] := hl
                    refine lv_goto (tgt := 87) hx hb dY1_pass_116 (by decide) ?_
                    exact ih (j + 1) _ (by show h - (j + 1) < h - j; omega) ⟨by omega, lv_sub hl [2, 3, 4, 5, 6, 7, 1, 0] rfl⟩
                  · have e9 : rf_n (rf_sy k) (rf_fy k) (j + 1) = rf_n (rf_sy k) (rf_fy k) j + 1 := rf_n_s (Decidable.byContradiction (fun q => hz (ec.2 q)))
                    refine lv_iconst (v := 1) hx hb dY1_pass_105 (by decide) ?_
                    refine lv_goto (tgt := 110) hx hb dY1_pass_106 (by decide) ?_
                    refine lv_iadd hx hb dY1_pass_110 ?_
                    refine W.eq (g2 := F0 m 111 ls [.int (nI (rf_n (rf_sy k) (rf_fy k) (j + 1)))]) (congrArg (fun z9 => F0 m 111 ls [.int z9]) (show ((nI (rf_n (rf_sy k) (rf_fy k) j)) + 1) = nI (rf_n (rf_sy k) (rf_fy k) (j + 1)) from by rw [e9]; exact nI_1 _)) ?_
                    refine lv_istore hx hb dY1_pass_111 hl (by decide) rfl (fun ls hl => ?_)
                    have hl : lv_has ls 8 [(6, .int (nI (rf_n (rf_sy k) (rf_fy k) (j + 1)))), (0, .ref h0), (1, .int (nI k)), (2, .int (nI w)), (3, .int (nI h)), (4, .int b), (5, .int (nI (rf_n (rf_sx k) (rf_fx k) w))), (7, .int (nI j))] := hl
                    refine lv_iinc (k := 7) (v := (nI (j + 1))) hx hb dY1_pass_113 hl rfl (rf_inc j) (by decide) rfl (fun ls hl => ?_)
                    have hl : lv_has ls 8 [(7, .int (nI (j + 1))), (6, .int (nI (rf_n (rf_sy k) (rf_fy k) (j + 1)))), (0, .ref h0), (1, .int (nI k)), (2, .int (nI w)), (3, .int (nI h)), (4, .int b), (5, .int (nI (rf_n (rf_sx k) (rf_fx k) w)))] := hl
                    refine lv_goto (tgt := 87) hx hb dY1_pass_116 (by decide) ?_
                    exact ih (j + 1) _ (by show h - (j + 1) < h - j; omega) ⟨by omega, lv_sub hl [2, 3, 4, 5, 6, 7, 1, 0] rfl⟩
              · have hi : j < w := Nat.lt_of_not_le (fun q => hc0 ((nI_leI (by omega) (by omega)).mpr q))
                refine lv_iload hx hb dY1_pass_58 (lv_at hl 5 rfl) ?_
                refine lv_aload_n hx hb dY1_pass_60 rfl (lv_at hl 0 rfl) ?_
                refine lv_iload_n hx hb dY1_pass_61 rfl (lv_at hl 1 rfl) ?_
                refine lv_iload hx hb dY1_pass_62 (lv_at hl 7 rfl) ?_
                refine vp_callSi (W.runV (C := RX1) (As := [.int (nI k), .int (nI j)]) (rest := [.int (nI (rf_n (rf_sx k) (rf_fx k) j))]) ⟨hx, hb, hml, hown, hts⟩ (c_Y1_column l dC dI cI cJ h0 b1 b2 0 rc rl ps g t k j hk (by omega)) (cwV 2 hts gY1_pass_Y1_column rfl rfl rfl (by decide +kernel) ⟨Nat.le_of_ble_eq_true rfl, Nat.le_of_ble_eq_true rfl⟩) ⟨fun a U g mk q => by obtain ⟨q0, qP, qK⟩ := q; exact ⟨q0, qP, va_K.moved (u := U) (U := U.calling g mk a) (Vm.Alike.refl U.vm) qK⟩, va_recv hK hP (ci := 1) (q0 := 0) rfl rfl, fun U hU hW => ⟨rfl, by rw [hU]; exact hP, va_K.moved hW.alike hK⟩⟩ rfl rfl hl.1 rfl (lv_room (Nat.le_of_ble_eq_true rfl)) dY1_pass_64 ⟨Nat.zero_le _, Nat.zero_le _⟩) (fun rc9 ec => ?_)
                refine lv_if_eq (tgt := 74) hx hb dY1_pass_67 (by decide) (fun hz => ?_) (fun hz => ?_)
                · have e9 : rf_n (rf_sx k) (rf_fx k) (j + 1) = rf_n (rf_sx k) (rf_fx k) j := rf_n_f (fun q => absurd ((ec.1 q).symm.trans hz) (by decide))
                  refine lv_iconst (v := 0) hx hb dY1_pass_74 (by decide) ?_
                  refine lv_iadd hx hb dY1_pass_75 ?_
                  refine W.eq (g2 := F0 m 76 ls [.int (nI (rf_n (rf_sx k) (rf_fx k) (j + 1)))]) (congrArg (fun z9 => F0 m 76 ls [.int z9]) (show ((nI (rf_n (rf_sx k) (rf_fx k) j)) + 0) = nI (rf_n (rf_sx k) (rf_fx k) (j + 1)) from by rw [e9]; exact Int32.add_zero _)) ?_
                  refine lv_istore hx hb dY1_pass_76 hl (by decide) rfl (fun ls hl => ?_)
                  have hl : lv_has ls 8 [(5, .int (nI (rf_n (rf_sx k) (rf_fx k) (j + 1)))), (0, .ref h0), (1, .int (nI k)), (2, .int (nI w)), (3, .int (nI h)), (4, .int b), (6, .int 0), (7, .int (nI j))] := hl
                  refine lv_iinc (k := 7) (v := (nI (j + 1))) hx hb dY1_pass_78 hl rfl (rf_inc j) (by decide) rfl (fun ls hl => ?_)
                  have hl : lv_has ls 8 [(7, .int (nI (j + 1))), (5, .int (nI (rf_n (rf_sx k) (rf_fx k) (j + 1)))), (0, .ref h0), (1, .int (nI k)), (2, .int (nI w)), (3, .int (nI h)), (4, .int b), (6, .int 0)] := hl
                  refine lv_goto (tgt := 52) hx hb dY1_pass_81 (by decide) ?_
                  exact ih (j + 1) _ (by show w - (j + 1) < w - j; omega) ⟨by omega, lv_sub hl [2, 3, 4, 5, 6, 1, 7, 0] rfl⟩
                · have e9 : rf_n (rf_sx k) (rf_fx k) (j + 1) = rf_n (rf_sx k) (rf_fx k) j + 1 := rf_n_s (Decidable.byContradiction (fun q => hz (ec.2 q)))
                  refine lv_iconst (v := 1) hx hb dY1_pass_70 (by decide) ?_
                  refine lv_goto (tgt := 75) hx hb dY1_pass_71 (by decide) ?_
                  refine lv_iadd hx hb dY1_pass_75 ?_
                  refine W.eq (g2 := F0 m 76 ls [.int (nI (rf_n (rf_sx k) (rf_fx k) (j + 1)))]) (congrArg (fun z9 => F0 m 76 ls [.int z9]) (show ((nI (rf_n (rf_sx k) (rf_fx k) j)) + 1) = nI (rf_n (rf_sx k) (rf_fx k) (j + 1)) from by rw [e9]; exact nI_1 _)) ?_
                  refine lv_istore hx hb dY1_pass_76 hl (by decide) rfl (fun ls hl => ?_)
                  have hl : lv_has ls 8 [(5, .int (nI (rf_n (rf_sx k) (rf_fx k) (j + 1)))), (0, .ref h0), (1, .int (nI k)), (2, .int (nI w)), (3, .int (nI h)), (4, .int b), (6, .int 0), (7, .int (nI j))] := hl
                  refine lv_iinc (k := 7) (v := (nI (j + 1))) hx hb dY1_pass_78 hl rfl (rf_inc j) (by decide) rfl (fun ls hl => ?_)
                  have hl : lv_has ls 8 [(7, .int (nI (j + 1))), (5, .int (nI (rf_n (rf_sx k) (rf_fx k) (j + 1)))), (0, .ref h0), (1, .int (nI k)), (2, .int (nI w)), (3, .int (nI h)), (4, .int b), (6, .int 0)] := hl
                  refine lv_goto (tgt := 52) hx hb dY1_pass_81 (by decide) ?_
                  exact ih (j + 1) _ (by show w - (j + 1) < w - j; omega) ⟨by omega, lv_sub hl [2, 3, 4, 5, 6, 1, 7, 0] rfl⟩
            · exact absurd (Int32.not_le.mp q5) (nI_nlt (a := 100000) hh2 (by omega))
set_option maxHeartbeats 4000000 in
set_option maxRecDepth 100000 in
theorem c_Y1_pass_bad (l : Launch) (dC : Nat → ClassId) (dI : Nat → Nat → Nat) (cI cJ : ClassId) (h0 b1 b2 : Nat) (fl : Int32) (rc rl ps : Nat) (g t : Nat → Int32) (sz : Nat) (k w h b : Int32) (hb0 : rf_pw k w h) : Met l yY1_pass wsY1_pass ({ frames := 1, cells := 0, slots := 0, locals := 21 }) (va_Pc [.ref h0, .int k, .int w, .int h, .int b] (rv_preD dC dI cI cJ h0 b1 b2 fl rc rl ps g t sz)) (va_Qi (fun (r : Int32) (_ : Unit) => r = 0) (fun _ t9 => rv_B dC dI cI cJ h0 b1 b2 1 rc rl ps g t (va_A (rv_W h0 b1 b2 cI cJ fl rc rl ps g t) sz) t9) (va_A (rv_W h0 b1 b2 cI cJ fl rc rl ps g t) sz)) 0 0 (va_A (rv_W h0 b1 b2 cI cJ fl rc rl ps g t) sz) := by
  refine Met.ofW (cc := cY1_pass) (maxL := 8) (ret := (some .int)) (by decide) rfl ?_
  intro p e s m args below meth c s₁ B hml hv
  obtain ⟨rfl, hsz, hP, hK, hD0⟩ := hv
  have hx := B.exec
  have hb := B.bytes
  have hr := B.returns
  have hts := atoms_spec (ws := wsY1_pass) B.pre
  have hown : s.vm.findClass RX1 = some m.cls := findClass_of_methodNamed B.named
  have hlocks := B.notSynchronized
  subst hsz
  have hD := hD0.self (sz := s.heap.size)
  generalize hAe : va_A (rv_W h0 b1 b2 cI cJ fl rc rl ps g t) s.heap.size = A at hD ⊢
  have hA : ∀ q : Nat, s.heap.size ≤ q → A q := fun q h => by rw [← hAe]; exact Or.inr h
  have hS : va_S A s.heap s.heap [] := va_S.rf
  have hP : va_P (dC, dI) rw_cl (rv_W h0 b1 b2 cI cJ fl rc rl ps g t) s.heap := hP
  have hl := lv_entry ([.ref h0, .int k, .int w, .int h, .int b]) (n := 8) (Nat.le_of_ble_eq_true rfl)
  rw [lg_entry_eq]
  generalize (lg_sl ([.ref h0, .int k, .int w, .int h, .int b]) ++ List.replicate (8 - (lg_sl ([.ref h0, .int k, .int w, .int h, .int b])).length) Slot.unset).toArray = ls at hl ⊢
  have hl : lv_has ls 8 [(0, .ref h0), (1, .int k), (2, .int w), (3, .int h), (4, .int b)] := hl
  refine lv_aload_n hx hb dY1_pass_0 rfl (lv_at hl 0 rfl) ?_
  refine lv_iconst (v := 0) hx hb dY1_pass_1 (by decide) ?_
  refine va_put (D := (dC, dI)) (ci := 1) (v := .int 0) (ty := .int) (C := RX1) (T := TY1) (N := 6) hx hb hts (by decide +kernel) tyY1 tyY1_ok nmY1 hown hK hP hD hS 0 rfl rfl 0 (by decide) (hts (.fieldLink RX1 26 "RowFiltersModel" "failed" "I") (by decide +kernel)) (fun _ h9 => h9) rfl (by decide +kernel) rfl rfl (Nat.le_of_ble_eq_true rfl) dY1_pass_2 (fun H locs hP hD hS => ?_)
  have hP : va_P (dC, dI) rw_cl [(h0, .inr (1, [.int 0, .int (nI rc), .int (nI rl), .int (nI ps), .ref b1, .ref b2])), (b1, .inl (cI, 4096, .inl g)), (b2, .inl (cJ, 4096, .inl t))] H := hP
  have hD : va_D A [(h0, .inr (1, [.int 0, .int (nI rc), .int (nI rl), .int (nI ps), .ref b1, .ref b2])), (b1, .inl (cI, 4096, .inl g)), (b2, .inl (cJ, 4096, .inl t))] := hD
  refine lv_iload_n hx hb dY1_pass_5 rfl (lv_at hl 1 rfl) ?_
  refine lv_if_lt (tgt := 37) hx hb dY1_pass_6 (by decide) (fun q0 => ?_) (fun q0 => ?_)
  · refine lv_aload_n hx hb dY1_pass_37 rfl (lv_at hl 0 rfl) ?_
    refine lv_iconst (v := 1) hx hb dY1_pass_38 (by decide) ?_
    have hFc := va_free (wc := [(h0, .inr (1, [.int 0, .int (nI rc), .int (nI rl), .int (nI ps), .ref b1, .ref b2])), (b1, .inl (cI, 4096, .inl g)), (b2, .inl (cJ, 4096, .inl t))]) hD hS hA [0, 1, 2] rfl
    refine va_calli (va_runV (C := RX1) (As := [.int 1]) (rest := []) ⟨hx, hb, hml, hown, hts⟩ (c_Y1_fail l dC dI cI cJ h0 b1 b2 0 rc rl ps g t H.size 1) (cwV 1 hts gY1_pass_Y1_fail rfl rfl rfl (by decide +kernel) ⟨Nat.le_of_ble_eq_true rfl, Nat.le_of_ble_eq_true rfl⟩) ⟨fun a U g mk q => by obtain ⟨q0, q1, qP, qK, qD⟩ := q; exact ⟨q0, q1, qP, va_K.moved (u := U) (U := U.calling g mk a) (Vm.Alike.refl U.vm) qK, qD⟩, va_recv hK hP (ci := 1) (q0 := 0) rfl rfl, fun U hU hW => ⟨rfl, by rw [hU], by rw [hU]; exact hP, va_K.moved hW.alike hK, hD.weaken (fun _ _ _ _ => trivial)⟩⟩ rfl rfl hl.1 rfl (lv_room (Nat.le_of_ble_eq_true rfl)) dY1_pass_39 ⟨Nat.zero_le _, Nat.zero_le _⟩) hS (fun q _ h => hFc q h) hFc (fun rz u t9 H1 locs ht hvm ez hB hz1 hk1 hS => ?_)
    obtain ⟨hP1, hK1, hD1⟩ := hB
    rw [ht] at hP1
    obtain ⟨hP, hD⟩ := va_join (wr := []) (w1 := [(h0, .inr (1, [.int 1, .int (nI rc), .int (nI rl), .int (nI ps), .ref b1, .ref b2])), (b1, .inl (cI, 4096, .inl g)), (b2, .inl (cJ, 4096, .inl t))]) hP hD [0, 1, 2] [] rfl rfl (by decide) (by decide) hk1 hFc hP1 hD1
    generalize H1 = H at hP hS ⊢
    have hP : va_P (dC, dI) rw_cl [(h0, .inr (1, [.int 1, .int (nI rc), .int (nI rl), .int (nI ps), .ref b1, .ref b2])), (b1, .inl (cI, 4096, .inl g)), (b2, .inl (cJ, 4096, .inl t))] H := hP
    have hD : va_D A [(h0, .inr (1, [.int 1, .int (nI rc), .int (nI rl), .int (nI ps), .ref b1, .ref b2])), (b1, .inl (cI, 4096, .inl g)), (b2, .inl (cJ, 4096, .inl t))] := hD
    refine W.widen (k := 0) (n := 0) (Nat.le_refl _) (Nat.le_refl _) ?_
    exact W.iret (v := rz) hx hb hr (fun t ht hW => ⟨⟨rz, (), rfl, ez, by rw [ht]; exact hP, va_K.moved hW.alike hK, hD⟩, hS.F ht⟩) hS.2.2 dY1_pass_42
  · refine lv_iload_n hx hb dY1_pass_9 rfl (lv_at hl 1 rfl) ?_
    refine lv_bipush (v := 6) hx hb dY1_pass_10 (by decide) ?_
    refine lv_icmp_gt (tgt := 37) hx hb dY1_pass_12 (by decide) (fun q1 => ?_) (fun q1 => ?_)
    · refine lv_aload_n hx hb dY1_pass_37 rfl (lv_at hl 0 rfl) ?_
      refine lv_iconst (v := 1) hx hb dY1_pass_38 (by decide) ?_
      have hFc := va_free (wc := [(h0, .inr (1, [.int 0, .int (nI rc), .int (nI rl), .int (nI ps), .ref b1, .ref b2])), (b1, .inl (cI, 4096, .inl g)), (b2, .inl (cJ, 4096, .inl t))]) hD hS hA [0, 1, 2] rfl
      refine va_calli (va_runV (C := RX1) (As := [.int 1]) (rest := []) ⟨hx, hb, hml, hown, hts⟩ (c_Y1_fail l dC dI cI cJ h0 b1 b2 0 rc rl ps g t H.size 1) (cwV 1 hts gY1_pass_Y1_fail rfl rfl rfl (by decide +kernel) ⟨Nat.le_of_ble_eq_true rfl, Nat.le_of_ble_eq_true rfl⟩) ⟨fun a U g mk q => by obtain ⟨q0, q1, qP, qK, qD⟩ := q; exact ⟨q0, q1, qP, va_K.moved (u := U) (U := U.calling g mk a) (Vm.Alike.refl U.vm) qK, qD⟩, va_recv hK hP (ci := 1) (q0 := 0) rfl rfl, fun U hU hW => ⟨rfl, by rw [hU], by rw [hU]; exact hP, va_K.moved hW.alike hK, hD.weaken (fun _ _ _ _ => trivial)⟩⟩ rfl rfl hl.1 rfl (lv_room (Nat.le_of_ble_eq_true rfl)) dY1_pass_39 ⟨Nat.zero_le _, Nat.zero_le _⟩) hS (fun q _ h => hFc q h) hFc (fun rz u t9 H1 locs ht hvm ez hB hz1 hk1 hS => ?_)
      obtain ⟨hP1, hK1, hD1⟩ := hB
      rw [ht] at hP1
      obtain ⟨hP, hD⟩ := va_join (wr := []) (w1 := [(h0, .inr (1, [.int 1, .int (nI rc), .int (nI rl), .int (nI ps), .ref b1, .ref b2])), (b1, .inl (cI, 4096, .inl g)), (b2, .inl (cJ, 4096, .inl t))]) hP hD [0, 1, 2] [] rfl rfl (by decide) (by decide) hk1 hFc hP1 hD1
      generalize H1 = H at hP hS ⊢
      have hP : va_P (dC, dI) rw_cl [(h0, .inr (1, [.int 1, .int (nI rc), .int (nI rl), .int (nI ps), .ref b1, .ref b2])), (b1, .inl (cI, 4096, .inl g)), (b2, .inl (cJ, 4096, .inl t))] H := hP
      have hD : va_D A [(h0, .inr (1, [.int 1, .int (nI rc), .int (nI rl), .int (nI ps), .ref b1, .ref b2])), (b1, .inl (cI, 4096, .inl g)), (b2, .inl (cJ, 4096, .inl t))] := hD
      refine W.widen (k := 0) (n := 0) (Nat.le_refl _) (Nat.le_refl _) ?_
      exact W.iret (v := rz) hx hb hr (fun t ht hW => ⟨⟨rz, (), rfl, ez, by rw [ht]; exact hP, va_K.moved hW.alike hK, hD⟩, hS.F ht⟩) hS.2.2 dY1_pass_42
    · refine lv_iload_n hx hb dY1_pass_15 rfl (lv_at hl 2 rfl) ?_
      refine lv_iconst (v := 1) hx hb dY1_pass_16 (by decide) ?_
      refine lv_icmp_lt (tgt := 37) hx hb dY1_pass_17 (by decide) (fun q2 => ?_) (fun q2 => ?_)
      · refine lv_aload_n hx hb dY1_pass_37 rfl (lv_at hl 0 rfl) ?_
        refine lv_iconst (v := 1) hx hb dY1_pass_38 (by decide) ?_
        have hFc := va_free (wc := [(h0, .inr (1, [.int 0, .int (nI rc), .int (nI rl), .int (nI ps), .ref b1, .ref b2])), (b1, .inl (cI, 4096, .inl g)), (b2, .inl (cJ, 4096, .inl t))]) hD hS hA [0, 1, 2] rfl
        refine va_calli (va_runV (C := RX1) (As := [.int 1]) (rest := []) ⟨hx, hb, hml, hown, hts⟩ (c_Y1_fail l dC dI cI cJ h0 b1 b2 0 rc rl ps g t H.size 1) (cwV 1 hts gY1_pass_Y1_fail rfl rfl rfl (by decide +kernel) ⟨Nat.le_of_ble_eq_true rfl, Nat.le_of_ble_eq_true rfl⟩) ⟨fun a U g mk q => by obtain ⟨q0, q1, qP, qK, qD⟩ := q; exact ⟨q0, q1, qP, va_K.moved (u := U) (U := U.calling g mk a) (Vm.Alike.refl U.vm) qK, qD⟩, va_recv hK hP (ci := 1) (q0 := 0) rfl rfl, fun U hU hW => ⟨rfl, by rw [hU], by rw [hU]; exact hP, va_K.moved hW.alike hK, hD.weaken (fun _ _ _ _ => trivial)⟩⟩ rfl rfl hl.1 rfl (lv_room (Nat.le_of_ble_eq_true rfl)) dY1_pass_39 ⟨Nat.zero_le _, Nat.zero_le _⟩) hS (fun q _ h => hFc q h) hFc (fun rz u t9 H1 locs ht hvm ez hB hz1 hk1 hS => ?_)
        obtain ⟨hP1, hK1, hD1⟩ := hB
        rw [ht] at hP1
        obtain ⟨hP, hD⟩ := va_join (wr := []) (w1 := [(h0, .inr (1, [.int 1, .int (nI rc), .int (nI rl), .int (nI ps), .ref b1, .ref b2])), (b1, .inl (cI, 4096, .inl g)), (b2, .inl (cJ, 4096, .inl t))]) hP hD [0, 1, 2] [] rfl rfl (by decide) (by decide) hk1 hFc hP1 hD1
        generalize H1 = H at hP hS ⊢
        have hP : va_P (dC, dI) rw_cl [(h0, .inr (1, [.int 1, .int (nI rc), .int (nI rl), .int (nI ps), .ref b1, .ref b2])), (b1, .inl (cI, 4096, .inl g)), (b2, .inl (cJ, 4096, .inl t))] H := hP
        have hD : va_D A [(h0, .inr (1, [.int 1, .int (nI rc), .int (nI rl), .int (nI ps), .ref b1, .ref b2])), (b1, .inl (cI, 4096, .inl g)), (b2, .inl (cJ, 4096, .inl t))] := hD
        refine W.widen (k := 0) (n := 0) (Nat.le_refl _) (Nat.le_refl _) ?_
        exact W.iret (v := rz) hx hb hr (fun t ht hW => ⟨⟨rz, (), rfl, ez, by rw [ht]; exact hP, va_K.moved hW.alike hK, hD⟩, hS.F ht⟩) hS.2.2 dY1_pass_42
      · refine lv_iload_n hx hb dY1_pass_20 rfl (lv_at hl 2 rfl) ?_
        refine lv_ldc hx hb hown (hts (.constant RX1 61 (100000)) (by decide +kernel)) dY1_pass_21 ?_
        refine lv_icmp_gt (tgt := 37) hx hb dY1_pass_23 (by decide) (fun q3 => ?_) (fun q3 => ?_)
        · refine lv_aload_n hx hb dY1_pass_37 rfl (lv_at hl 0 rfl) ?_
          refine lv_iconst (v := 1) hx hb dY1_pass_38 (by decide) ?_
          have hFc := va_free (wc := [(h0, .inr (1, [.int 0, .int (nI rc), .int (nI rl), .int (nI ps), .ref b1, .ref b2])), (b1, .inl (cI, 4096, .inl g)), (b2, .inl (cJ, 4096, .inl t))]) hD hS hA [0, 1, 2] rfl
          refine va_calli (va_runV (C := RX1) (As := [.int 1]) (rest := []) ⟨hx, hb, hml, hown, hts⟩ (c_Y1_fail l dC dI cI cJ h0 b1 b2 0 rc rl ps g t H.size 1) (cwV 1 hts gY1_pass_Y1_fail rfl rfl rfl (by decide +kernel) ⟨Nat.le_of_ble_eq_true rfl, Nat.le_of_ble_eq_true rfl⟩) ⟨fun a U g mk q => by obtain ⟨q0, q1, qP, qK, qD⟩ := q; exact ⟨q0, q1, qP, va_K.moved (u := U) (U := U.calling g mk a) (Vm.Alike.refl U.vm) qK, qD⟩, va_recv hK hP (ci := 1) (q0 := 0) rfl rfl, fun U hU hW => ⟨rfl, by rw [hU], by rw [hU]; exact hP, va_K.moved hW.alike hK, hD.weaken (fun _ _ _ _ => trivial)⟩⟩ rfl rfl hl.1 rfl (lv_room (Nat.le_of_ble_eq_true rfl)) dY1_pass_39 ⟨Nat.zero_le _, Nat.zero_le _⟩) hS (fun q _ h => hFc q h) hFc (fun rz u t9 H1 locs ht hvm ez hB hz1 hk1 hS => ?_)
          obtain ⟨hP1, hK1, hD1⟩ := hB
          rw [ht] at hP1
          obtain ⟨hP, hD⟩ := va_join (wr := []) (w1 := [(h0, .inr (1, [.int 1, .int (nI rc), .int (nI rl), .int (nI ps), .ref b1, .ref b2])), (b1, .inl (cI, 4096, .inl g)), (b2, .inl (cJ, 4096, .inl t))]) hP hD [0, 1, 2] [] rfl rfl (by decide) (by decide) hk1 hFc hP1 hD1
          generalize H1 = H at hP hS ⊢
          have hP : va_P (dC, dI) rw_cl [(h0, .inr (1, [.int 1, .int (nI rc), .int (nI rl), .int (nI ps), .ref b1, .ref b2])), (b1, .inl (cI, 4096, .inl g)), (b2, .inl (cJ, 4096, .inl t))] H := hP
          have hD : va_D A [(h0, .inr (1, [.int 1, .int (nI rc), .int (nI rl), .int (nI ps), .ref b1, .ref b2])), (b1, .inl (cI, 4096, .inl g)), (b2, .inl (cJ, 4096, .inl t))] := hD
          refine W.widen (k := 0) (n := 0) (Nat.le_refl _) (Nat.le_refl _) ?_
          exact W.iret (v := rz) hx hb hr (fun t ht hW => ⟨⟨rz, (), rfl, ez, by rw [ht]; exact hP, va_K.moved hW.alike hK, hD⟩, hS.F ht⟩) hS.2.2 dY1_pass_42
        · refine lv_iload_n hx hb dY1_pass_26 rfl (lv_at hl 3 rfl) ?_
          refine lv_iconst (v := 1) hx hb dY1_pass_27 (by decide) ?_
          refine lv_icmp_lt (tgt := 37) hx hb dY1_pass_28 (by decide) (fun q4 => ?_) (fun q4 => ?_)
          · refine lv_aload_n hx hb dY1_pass_37 rfl (lv_at hl 0 rfl) ?_
            refine lv_iconst (v := 1) hx hb dY1_pass_38 (by decide) ?_
            have hFc := va_free (wc := [(h0, .inr (1, [.int 0, .int (nI rc), .int (nI rl), .int (nI ps), .ref b1, .ref b2])), (b1, .inl (cI, 4096, .inl g)), (b2, .inl (cJ, 4096, .inl t))]) hD hS hA [0, 1, 2] rfl
            refine va_calli (va_runV (C := RX1) (As := [.int 1]) (rest := []) ⟨hx, hb, hml, hown, hts⟩ (c_Y1_fail l dC dI cI cJ h0 b1 b2 0 rc rl ps g t H.size 1) (cwV 1 hts gY1_pass_Y1_fail rfl rfl rfl (by decide +kernel) ⟨Nat.le_of_ble_eq_true rfl, Nat.le_of_ble_eq_true rfl⟩) ⟨fun a U g mk q => by obtain ⟨q0, q1, qP, qK, qD⟩ := q; exact ⟨q0, q1, qP, va_K.moved (u := U) (U := U.calling g mk a) (Vm.Alike.refl U.vm) qK, qD⟩, va_recv hK hP (ci := 1) (q0 := 0) rfl rfl, fun U hU hW => ⟨rfl, by rw [hU], by rw [hU]; exact hP, va_K.moved hW.alike hK, hD.weaken (fun _ _ _ _ => trivial)⟩⟩ rfl rfl hl.1 rfl (lv_room (Nat.le_of_ble_eq_true rfl)) dY1_pass_39 ⟨Nat.zero_le _, Nat.zero_le _⟩) hS (fun q _ h => hFc q h) hFc (fun rz u t9 H1 locs ht hvm ez hB hz1 hk1 hS => ?_)
            obtain ⟨hP1, hK1, hD1⟩ := hB
            rw [ht] at hP1
            obtain ⟨hP, hD⟩ := va_join (wr := []) (w1 := [(h0, .inr (1, [.int 1, .int (nI rc), .int (nI rl), .int (nI ps), .ref b1, .ref b2])), (b1, .inl (cI, 4096, .inl g)), (b2, .inl (cJ, 4096, .inl t))]) hP hD [0, 1, 2] [] rfl rfl (by decide) (by decide) hk1 hFc hP1 hD1
            generalize H1 = H at hP hS ⊢
            have hP : va_P (dC, dI) rw_cl [(h0, .inr (1, [.int 1, .int (nI rc), .int (nI rl), .int (nI ps), .ref b1, .ref b2])), (b1, .inl (cI, 4096, .inl g)), (b2, .inl (cJ, 4096, .inl t))] H := hP
            have hD : va_D A [(h0, .inr (1, [.int 1, .int (nI rc), .int (nI rl), .int (nI ps), .ref b1, .ref b2])), (b1, .inl (cI, 4096, .inl g)), (b2, .inl (cJ, 4096, .inl t))] := hD
            refine W.widen (k := 0) (n := 0) (Nat.le_refl _) (Nat.le_refl _) ?_
            exact W.iret (v := rz) hx hb hr (fun t ht hW => ⟨⟨rz, (), rfl, ez, by rw [ht]; exact hP, va_K.moved hW.alike hK, hD⟩, hS.F ht⟩) hS.2.2 dY1_pass_42
          · refine lv_iload_n hx hb dY1_pass_31 rfl (lv_at hl 3 rfl) ?_
            refine lv_ldc hx hb hown (hts (.constant RX1 61 (100000)) (by decide +kernel)) dY1_pass_32 ?_
            refine lv_icmp_le (tgt := 43) hx hb dY1_pass_34 (by decide) (fun q5 => ?_) (fun q5 => ?_)
            · exact absurd hb0 (by rintro (z | z | z | z | z | z); exact q0 z; exact q1 z; exact q2 z; exact q3 z; exact q4 z; exact Int32.not_lt.mpr q5 z)
            · refine lv_aload_n hx hb dY1_pass_37 rfl (lv_at hl 0 rfl) ?_
              refine lv_iconst (v := 1) hx hb dY1_pass_38 (by decide) ?_
              have hFc := va_free (wc := [(h0, .inr (1, [.int 0, .int (nI rc), .int (nI rl), .int (nI ps), .ref b1, .ref b2])), (b1, .inl (cI, 4096, .inl g)), (b2, .inl (cJ, 4096, .inl t))]) hD hS hA [0, 1, 2] rfl
              refine va_calli (va_runV (C := RX1) (As := [.int 1]) (rest := []) ⟨hx, hb, hml, hown, hts⟩ (c_Y1_fail l dC dI cI cJ h0 b1 b2 0 rc rl ps g t H.size 1) (cwV 1 hts gY1_pass_Y1_fail rfl rfl rfl (by decide +kernel) ⟨Nat.le_of_ble_eq_true rfl, Nat.le_of_ble_eq_true rfl⟩) ⟨fun a U g mk q => by obtain ⟨q0, q1, qP, qK, qD⟩ := q; exact ⟨q0, q1, qP, va_K.moved (u := U) (U := U.calling g mk a) (Vm.Alike.refl U.vm) qK, qD⟩, va_recv hK hP (ci := 1) (q0 := 0) rfl rfl, fun U hU hW => ⟨rfl, by rw [hU], by rw [hU]; exact hP, va_K.moved hW.alike hK, hD.weaken (fun _ _ _ _ => trivial)⟩⟩ rfl rfl hl.1 rfl (lv_room (Nat.le_of_ble_eq_true rfl)) dY1_pass_39 ⟨Nat.zero_le _, Nat.zero_le _⟩) hS (fun q _ h => hFc q h) hFc (fun rz u t9 H1 locs ht hvm ez hB hz1 hk1 hS => ?_)
              obtain ⟨hP1, hK1, hD1⟩ := hB
              rw [ht] at hP1
              obtain ⟨hP, hD⟩ := va_join (wr := []) (w1 := [(h0, .inr (1, [.int 1, .int (nI rc), .int (nI rl), .int (nI ps), .ref b1, .ref b2])), (b1, .inl (cI, 4096, .inl g)), (b2, .inl (cJ, 4096, .inl t))]) hP hD [0, 1, 2] [] rfl rfl (by decide) (by decide) hk1 hFc hP1 hD1
              generalize H1 = H at hP hS ⊢
              have hP : va_P (dC, dI) rw_cl [(h0, .inr (1, [.int 1, .int (nI rc), .int (nI rl), .int (nI ps), .ref b1, .ref b2])), (b1, .inl (cI, 4096, .inl g)), (b2, .inl (cJ, 4096, .inl t))] H := hP
              have hD : va_D A [(h0, .inr (1, [.int 1, .int (nI rc), .int (nI rl), .int (nI ps), .ref b1, .ref b2])), (b1, .inl (cI, 4096, .inl g)), (b2, .inl (cJ, 4096, .inl t))] := hD
              refine W.widen (k := 0) (n := 0) (Nat.le_refl _) (Nat.le_refl _) ?_
              exact W.iret (v := rz) hx hb hr (fun t ht hW => ⟨⟨rz, (), rfl, ez, by rw [ht]; exact hP, va_K.moved hW.alike hK, hD⟩, hS.F ht⟩) hS.2.2 dY1_pass_42
set_option maxHeartbeats 4000000 in
set_option maxRecDepth 100000 in
theorem c_Y1_passOf (l : Launch) (dC : Nat → ClassId) (dI : Nat → Nat → Nat) (cI cJ : ClassId) (h0 b1 b2 : Nat) (fl : Int32) (rc rl ps : Nat) (g t : Nat → Int32) (sz : Nat) (x y : Nat) (hx9 : x ≤ 99999) (hy9 : y ≤ 99999) : Met l yY1_passOf wsY1_passOf ({ frames := 1, cells := 0, slots := 0, locals := 22 }) (va_Pc [.ref h0, .int (nI x), .int (nI y)] (rv_preD dC dI cI cJ h0 b1 b2 fl rc rl ps g t sz)) (va_Qi (fun (r : Int32) (_ : Unit) => ∃ k, r = nI k ∧ rf_po x y k) (fun _ t9 => rv_B dC dI cI cJ h0 b1 b2 0 rc rl ps g t (va_A (rv_W h0 b1 b2 cI cJ fl rc rl ps g t) sz) t9) (va_A (rv_W h0 b1 b2 cI cJ fl rc rl ps g t) sz)) 0 0 (va_A (rv_W h0 b1 b2 cI cJ fl rc rl ps g t) sz) := by
  refine Met.ofW (cc := cY1_passOf) (maxL := 4) (ret := (some .int)) (by decide) rfl ?_
  intro p e s m args below meth c s₁ B hml hv
  obtain ⟨rfl, hsz, hP, hK, hD0⟩ := hv
  have hx := B.exec
  have hb := B.bytes
  have hr := B.returns
  have hts := atoms_spec (ws := wsY1_passOf) B.pre
  have hown : s.vm.findClass RX1 = some m.cls := findClass_of_methodNamed B.named
  have hlocks := B.notSynchronized
  subst hsz
  have hD := hD0.self (sz := s.heap.size)
  generalize hAe : va_A (rv_W h0 b1 b2 cI cJ fl rc rl ps g t) s.heap.size = A at hD ⊢
  have hA : ∀ q : Nat, s.heap.size ≤ q → A q := fun q h => by rw [← hAe]; exact Or.inr h
  have hS : va_S A s.heap s.heap [] := va_S.rf
  have hP : va_P (dC, dI) rw_cl (rv_W h0 b1 b2 cI cJ fl rc rl ps g t) s.heap := hP
  have hl := lv_entry ([.ref h0, .int (nI x), .int (nI y)]) (n := 4) (Nat.le_of_ble_eq_true rfl)
  rw [lg_entry_eq]
  generalize (lg_sl ([.ref h0, .int (nI x), .int (nI y)]) ++ List.replicate (4 - (lg_sl ([.ref h0, .int (nI x), .int (nI y)])).length) Slot.unset).toArray = ls at hl ⊢
  have hl : lv_has ls 4 [(0, .ref h0), (1, .int (nI x)), (2, .int (nI y))] := hl
  refine lv_aload_n hx hb dY1_passOf_0 rfl (lv_at hl 0 rfl) ?_
  refine lv_iconst (v := 0) hx hb dY1_passOf_1 (by decide) ?_
  refine va_put (D := (dC, dI)) (ci := 1) (v := .int 0) (ty := .int) (C := RX1) (T := TY1) (N := 6) hx hb hts (by decide +kernel) tyY1 tyY1_ok nmY1 hown hK hP hD hS 0 rfl rfl 0 (by decide) (hts (.fieldLink RX1 26 "RowFiltersModel" "failed" "I") (by decide +kernel)) (fun _ h9 => h9) rfl (by decide +kernel) rfl rfl (Nat.le_of_ble_eq_true rfl) dY1_passOf_2 (fun H locs hP hD hS => ?_)
  have hP : va_P (dC, dI) rw_cl [(h0, .inr (1, [.int 0, .int (nI rc), .int (nI rl), .int (nI ps), .ref b1, .ref b2])), (b1, .inl (cI, 4096, .inl g)), (b2, .inl (cJ, 4096, .inl t))] H := hP
  have hD : va_D A [(h0, .inr (1, [.int 0, .int (nI rc), .int (nI rl), .int (nI ps), .ref b1, .ref b2])), (b1, .inl (cI, 4096, .inl g)), (b2, .inl (cJ, 4096, .inl t))] := hD
  refine lv_iload_n hx hb dY1_passOf_5 rfl (lv_at hl 1 rfl) ?_
  refine lv_if_lt (tgt := 25) hx hb dY1_passOf_6 (by decide) (fun q0 => ?_) (fun q0 => ?_)
  · exact absurd q0 (nI_pos (by omega))
  · refine lv_iload_n hx hb dY1_passOf_9 rfl (lv_at hl 1 rfl) ?_
    refine lv_ldc hx hb hown (hts (.constant RX1 68 (99999)) (by decide +kernel)) dY1_passOf_10 ?_
    refine lv_icmp_gt (tgt := 25) hx hb dY1_passOf_12 (by decide) (fun q1 => ?_) (fun q1 => ?_)
    · exact absurd q1 (nI_nlt (a := 99999) hx9 (by omega))
    · refine lv_iload_n hx hb dY1_passOf_15 rfl (lv_at hl 2 rfl) ?_
      refine lv_if_lt (tgt := 25) hx hb dY1_passOf_16 (by decide) (fun q2 => ?_) (fun q2 => ?_)
      · exact absurd q2 (nI_pos (by omega))
      · refine lv_iload_n hx hb dY1_passOf_19 rfl (lv_at hl 2 rfl) ?_
        refine lv_ldc hx hb hown (hts (.constant RX1 68 (99999)) (by decide +kernel)) dY1_passOf_20 ?_
        refine lv_icmp_le (tgt := 31) hx hb dY1_passOf_22 (by decide) (fun q3 => ?_) (fun q3 => ?_)
        · refine lv_iconst (v := 0) hx hb dY1_passOf_31 (by decide) ?_
          refine lv_istore_n hx hb dY1_passOf_32 rfl hl (by decide) rfl (fun ls hl => ?_)
          have hl : lv_has ls 4 [(3, .int 0), (0, .ref h0), (1, .int (nI x)), (2, .int (nI y))] := hl
          refine rw_loop (fun k : Nat => 7 - k) (fun k ls => (k ≤ 6 ∧ ∀ j, j < k → ¬ rf_at j x y) ∧ lv_has ls 4 [(0, .ref h0), (1, .int (nI x)), (2, .int (nI y)), (3, .int (nI k))]) ?_ (0) ⟨⟨Nat.zero_le _, fun j h => absurd h (Nat.not_lt_zero j)⟩, lv_sub hl [1, 2, 3, 0] rfl⟩
          intro k ls hI ih
          obtain ⟨hj, hl⟩ := hI
          refine lv_aload_n hx hb dY1_passOf_33 rfl (lv_at hl 0 rfl) ?_
          refine lv_iload_n hx hb dY1_passOf_34 rfl (lv_at hl 3 rfl) ?_
          refine lv_iload_n hx hb dY1_passOf_35 rfl (lv_at hl 1 rfl) ?_
          refine vp_callSi (W.runV (C := RX1) (As := [.int (nI k), .int (nI x)]) (rest := []) ⟨hx, hb, hml, hown, hts⟩ (c_Y1_column l dC dI cI cJ h0 b1 b2 0 rc rl ps g t k x hj.1 (by omega)) (cwV 2 hts gY1_passOf_Y1_column rfl rfl rfl (by decide +kernel) ⟨Nat.le_of_ble_eq_true rfl, Nat.le_of_ble_eq_true rfl⟩) ⟨fun a U g mk q => by obtain ⟨q0, qP, qK⟩ := q; exact ⟨q0, qP, va_K.moved (u := U) (U := U.calling g mk a) (Vm.Alike.refl U.vm) qK⟩, va_recv hK hP (ci := 1) (q0 := 0) rfl rfl, fun U hU hW => ⟨rfl, by rw [hU]; exact hP, va_K.moved hW.alike hK⟩⟩ rfl rfl hl.1 rfl (lv_room (Nat.le_of_ble_eq_true rfl)) dY1_passOf_36 ⟨Nat.zero_le _, Nat.zero_le _⟩) (fun r1 e1 => ?_)
          refine lv_if_eq (tgt := 51) hx hb dY1_passOf_39 (by decide) (fun z1 => ?_) (fun z1 => ?_)
          · have hn : ¬ rf_at k x y := fun q => absurd ((e1.1 q.1).symm.trans z1) (by decide)
            have h7 : k < 6 := Nat.lt_of_le_of_ne hj.1 (fun q => hn (by subst q; exact rf_tot hj.2))
            refine lv_iinc (k := 3) (v := (nI (k + 1))) hx hb dY1_passOf_51 hl rfl (rf_inc k) (by decide) rfl (fun ls hl => ?_)
            have hl : lv_has ls 4 [(3, .int (nI (k + 1))), (0, .ref h0), (1, .int (nI x)), (2, .int (nI y))] := hl
            refine lv_goto (tgt := 33) hx hb dY1_passOf_54 (by decide) ?_
            exact ih (k + 1) _ (by show 7 - (k + 1) < 7 - k; omega) ⟨⟨by omega, lt_s hj.2 hn⟩, lv_sub hl [1, 2, 3, 0] rfl⟩
          · refine lv_aload_n hx hb dY1_passOf_42 rfl (lv_at hl 0 rfl) ?_
            refine lv_iload_n hx hb dY1_passOf_43 rfl (lv_at hl 3 rfl) ?_
            refine lv_iload_n hx hb dY1_passOf_44 rfl (lv_at hl 2 rfl) ?_
            refine vp_callSi (W.runV (C := RX1) (As := [.int (nI k), .int (nI y)]) (rest := []) ⟨hx, hb, hml, hown, hts⟩ (c_Y1_line l dC dI cI cJ h0 b1 b2 0 rc rl ps g t k y hj.1 (by omega)) (cwV 2 hts gY1_passOf_Y1_line rfl rfl rfl (by decide +kernel) ⟨Nat.le_of_ble_eq_true rfl, Nat.le_of_ble_eq_true rfl⟩) ⟨fun a U g mk q => by obtain ⟨q0, qP, qK⟩ := q; exact ⟨q0, qP, va_K.moved (u := U) (U := U.calling g mk a) (Vm.Alike.refl U.vm) qK⟩, va_recv hK hP (ci := 1) (q0 := 0) rfl rfl, fun U hU hW => ⟨rfl, by rw [hU]; exact hP, va_K.moved hW.alike hK⟩⟩ rfl rfl hl.1 rfl (lv_room (Nat.le_of_ble_eq_true rfl)) dY1_passOf_45 ⟨Nat.zero_le _, Nat.zero_le _⟩) (fun r2 e2 => ?_)
            refine lv_if_ne (tgt := 57) hx hb dY1_passOf_48 (by decide) (fun z2 => ?_) (fun z2 => ?_)
            · have ha : rf_at k x y := ⟨Decidable.byContradiction (fun q => z1 (e1.2 q)), Decidable.byContradiction (fun q => z2 (e2.2 q))⟩
              refine lv_iload_n hx hb dY1_passOf_57 rfl (lv_at hl 3 rfl) ?_
              exact W.iret (v := (nI k)) hx hb hr (fun t ht hW => ⟨⟨(nI k), (), rfl, ⟨k, rfl, hj.1, ha, hj.2⟩, by rw [ht]; exact hP, va_K.moved hW.alike hK, hD⟩, hS.F ht⟩) hS.2.2 dY1_passOf_58
            · have hn : ¬ rf_at k x y := fun q => absurd ((e2.1 q.2).symm.trans z2) (by decide)
              have h7 : k < 6 := Nat.lt_of_le_of_ne hj.1 (fun q => hn (by subst q; exact rf_tot hj.2))
              refine lv_iinc (k := 3) (v := (nI (k + 1))) hx hb dY1_passOf_51 hl rfl (rf_inc k) (by decide) rfl (fun ls hl => ?_)
              have hl : lv_has ls 4 [(3, .int (nI (k + 1))), (0, .ref h0), (1, .int (nI x)), (2, .int (nI y))] := hl
              refine lv_goto (tgt := 33) hx hb dY1_passOf_54 (by decide) ?_
              exact ih (k + 1) _ (by show 7 - (k + 1) < 7 - k; omega) ⟨⟨by omega, lt_s hj.2 hn⟩, lv_sub hl [1, 2, 3, 0] rfl⟩
        · exact absurd (Int32.not_le.mp q3) (nI_nlt (a := 99999) hy9 (by omega))
set_option maxHeartbeats 4000000 in
set_option maxRecDepth 100000 in
theorem c_Y1_passOf_bad (l : Launch) (dC : Nat → ClassId) (dI : Nat → Nat → Nat) (cI cJ : ClassId) (h0 b1 b2 : Nat) (fl : Int32) (rc rl ps : Nat) (g t : Nat → Int32) (sz : Nat) (x y : Int32) (hb0 : rf_xy x y) : Met l yY1_passOf wsY1_passOf ({ frames := 1, cells := 0, slots := 0, locals := 21 }) (va_Pc [.ref h0, .int x, .int y] (rv_preD dC dI cI cJ h0 b1 b2 fl rc rl ps g t sz)) (va_Qi (fun (r : Int32) (_ : Unit) => r = 0) (fun _ t9 => rv_B dC dI cI cJ h0 b1 b2 1 rc rl ps g t (va_A (rv_W h0 b1 b2 cI cJ fl rc rl ps g t) sz) t9) (va_A (rv_W h0 b1 b2 cI cJ fl rc rl ps g t) sz)) 0 0 (va_A (rv_W h0 b1 b2 cI cJ fl rc rl ps g t) sz) := by
  refine Met.ofW (cc := cY1_passOf) (maxL := 4) (ret := (some .int)) (by decide) rfl ?_
  intro p e s m args below meth c s₁ B hml hv
  obtain ⟨rfl, hsz, hP, hK, hD0⟩ := hv
  have hx := B.exec
  have hb := B.bytes
  have hr := B.returns
  have hts := atoms_spec (ws := wsY1_passOf) B.pre
  have hown : s.vm.findClass RX1 = some m.cls := findClass_of_methodNamed B.named
  have hlocks := B.notSynchronized
  subst hsz
  have hD := hD0.self (sz := s.heap.size)
  generalize hAe : va_A (rv_W h0 b1 b2 cI cJ fl rc rl ps g t) s.heap.size = A at hD ⊢
  have hA : ∀ q : Nat, s.heap.size ≤ q → A q := fun q h => by rw [← hAe]; exact Or.inr h
  have hS : va_S A s.heap s.heap [] := va_S.rf
  have hP : va_P (dC, dI) rw_cl (rv_W h0 b1 b2 cI cJ fl rc rl ps g t) s.heap := hP
  have hl := lv_entry ([.ref h0, .int x, .int y]) (n := 4) (Nat.le_of_ble_eq_true rfl)
  rw [lg_entry_eq]
  generalize (lg_sl ([.ref h0, .int x, .int y]) ++ List.replicate (4 - (lg_sl ([.ref h0, .int x, .int y])).length) Slot.unset).toArray = ls at hl ⊢
  have hl : lv_has ls 4 [(0, .ref h0), (1, .int x), (2, .int y)] := hl
  refine lv_aload_n hx hb dY1_passOf_0 rfl (lv_at hl 0 rfl) ?_
  refine lv_iconst (v := 0) hx hb dY1_passOf_1 (by decide) ?_
  refine va_put (D := (dC, dI)) (ci := 1) (v := .int 0) (ty := .int) (C := RX1) (T := TY1) (N := 6) hx hb hts (by decide +kernel) tyY1 tyY1_ok nmY1 hown hK hP hD hS 0 rfl rfl 0 (by decide) (hts (.fieldLink RX1 26 "RowFiltersModel" "failed" "I") (by decide +kernel)) (fun _ h9 => h9) rfl (by decide +kernel) rfl rfl (Nat.le_of_ble_eq_true rfl) dY1_passOf_2 (fun H locs hP hD hS => ?_)
  have hP : va_P (dC, dI) rw_cl [(h0, .inr (1, [.int 0, .int (nI rc), .int (nI rl), .int (nI ps), .ref b1, .ref b2])), (b1, .inl (cI, 4096, .inl g)), (b2, .inl (cJ, 4096, .inl t))] H := hP
  have hD : va_D A [(h0, .inr (1, [.int 0, .int (nI rc), .int (nI rl), .int (nI ps), .ref b1, .ref b2])), (b1, .inl (cI, 4096, .inl g)), (b2, .inl (cJ, 4096, .inl t))] := hD
  refine lv_iload_n hx hb dY1_passOf_5 rfl (lv_at hl 1 rfl) ?_
  refine lv_if_lt (tgt := 25) hx hb dY1_passOf_6 (by decide) (fun q0 => ?_) (fun q0 => ?_)
  · refine lv_aload_n hx hb dY1_passOf_25 rfl (lv_at hl 0 rfl) ?_
    refine lv_iconst (v := 1) hx hb dY1_passOf_26 (by decide) ?_
    have hFc := va_free (wc := [(h0, .inr (1, [.int 0, .int (nI rc), .int (nI rl), .int (nI ps), .ref b1, .ref b2])), (b1, .inl (cI, 4096, .inl g)), (b2, .inl (cJ, 4096, .inl t))]) hD hS hA [0, 1, 2] rfl
    refine va_calli (va_runV (C := RX1) (As := [.int 1]) (rest := []) ⟨hx, hb, hml, hown, hts⟩ (c_Y1_fail l dC dI cI cJ h0 b1 b2 0 rc rl ps g t H.size 1) (cwV 1 hts gY1_passOf_Y1_fail rfl rfl rfl (by decide +kernel) ⟨Nat.le_of_ble_eq_true rfl, Nat.le_of_ble_eq_true rfl⟩) ⟨fun a U g mk q => by obtain ⟨q0, q1, qP, qK, qD⟩ := q; exact ⟨q0, q1, qP, va_K.moved (u := U) (U := U.calling g mk a) (Vm.Alike.refl U.vm) qK, qD⟩, va_recv hK hP (ci := 1) (q0 := 0) rfl rfl, fun U hU hW => ⟨rfl, by rw [hU], by rw [hU]; exact hP, va_K.moved hW.alike hK, hD.weaken (fun _ _ _ _ => trivial)⟩⟩ rfl rfl hl.1 rfl (lv_room (Nat.le_of_ble_eq_true rfl)) dY1_passOf_27 ⟨Nat.zero_le _, Nat.zero_le _⟩) hS (fun q _ h => hFc q h) hFc (fun rz u t9 H1 locs ht hvm ez hB hz1 hk1 hS => ?_)
    obtain ⟨hP1, hK1, hD1⟩ := hB
    rw [ht] at hP1
    obtain ⟨hP, hD⟩ := va_join (wr := []) (w1 := [(h0, .inr (1, [.int 1, .int (nI rc), .int (nI rl), .int (nI ps), .ref b1, .ref b2])), (b1, .inl (cI, 4096, .inl g)), (b2, .inl (cJ, 4096, .inl t))]) hP hD [0, 1, 2] [] rfl rfl (by decide) (by decide) hk1 hFc hP1 hD1
    generalize H1 = H at hP hS ⊢
    have hP : va_P (dC, dI) rw_cl [(h0, .inr (1, [.int 1, .int (nI rc), .int (nI rl), .int (nI ps), .ref b1, .ref b2])), (b1, .inl (cI, 4096, .inl g)), (b2, .inl (cJ, 4096, .inl t))] H := hP
    have hD : va_D A [(h0, .inr (1, [.int 1, .int (nI rc), .int (nI rl), .int (nI ps), .ref b1, .ref b2])), (b1, .inl (cI, 4096, .inl g)), (b2, .inl (cJ, 4096, .inl t))] := hD
    refine W.widen (k := 0) (n := 0) (Nat.le_refl _) (Nat.le_refl _) ?_
    exact W.iret (v := rz) hx hb hr (fun t ht hW => ⟨⟨rz, (), rfl, ez, by rw [ht]; exact hP, va_K.moved hW.alike hK, hD⟩, hS.F ht⟩) hS.2.2 dY1_passOf_30
  · refine lv_iload_n hx hb dY1_passOf_9 rfl (lv_at hl 1 rfl) ?_
    refine lv_ldc hx hb hown (hts (.constant RX1 68 (99999)) (by decide +kernel)) dY1_passOf_10 ?_
    refine lv_icmp_gt (tgt := 25) hx hb dY1_passOf_12 (by decide) (fun q1 => ?_) (fun q1 => ?_)
    · refine lv_aload_n hx hb dY1_passOf_25 rfl (lv_at hl 0 rfl) ?_
      refine lv_iconst (v := 1) hx hb dY1_passOf_26 (by decide) ?_
      have hFc := va_free (wc := [(h0, .inr (1, [.int 0, .int (nI rc), .int (nI rl), .int (nI ps), .ref b1, .ref b2])), (b1, .inl (cI, 4096, .inl g)), (b2, .inl (cJ, 4096, .inl t))]) hD hS hA [0, 1, 2] rfl
      refine va_calli (va_runV (C := RX1) (As := [.int 1]) (rest := []) ⟨hx, hb, hml, hown, hts⟩ (c_Y1_fail l dC dI cI cJ h0 b1 b2 0 rc rl ps g t H.size 1) (cwV 1 hts gY1_passOf_Y1_fail rfl rfl rfl (by decide +kernel) ⟨Nat.le_of_ble_eq_true rfl, Nat.le_of_ble_eq_true rfl⟩) ⟨fun a U g mk q => by obtain ⟨q0, q1, qP, qK, qD⟩ := q; exact ⟨q0, q1, qP, va_K.moved (u := U) (U := U.calling g mk a) (Vm.Alike.refl U.vm) qK, qD⟩, va_recv hK hP (ci := 1) (q0 := 0) rfl rfl, fun U hU hW => ⟨rfl, by rw [hU], by rw [hU]; exact hP, va_K.moved hW.alike hK, hD.weaken (fun _ _ _ _ => trivial)⟩⟩ rfl rfl hl.1 rfl (lv_room (Nat.le_of_ble_eq_true rfl)) dY1_passOf_27 ⟨Nat.zero_le _, Nat.zero_le _⟩) hS (fun q _ h => hFc q h) hFc (fun rz u t9 H1 locs ht hvm ez hB hz1 hk1 hS => ?_)
      obtain ⟨hP1, hK1, hD1⟩ := hB
      rw [ht] at hP1
      obtain ⟨hP, hD⟩ := va_join (wr := []) (w1 := [(h0, .inr (1, [.int 1, .int (nI rc), .int (nI rl), .int (nI ps), .ref b1, .ref b2])), (b1, .inl (cI, 4096, .inl g)), (b2, .inl (cJ, 4096, .inl t))]) hP hD [0, 1, 2] [] rfl rfl (by decide) (by decide) hk1 hFc hP1 hD1
      generalize H1 = H at hP hS ⊢
      have hP : va_P (dC, dI) rw_cl [(h0, .inr (1, [.int 1, .int (nI rc), .int (nI rl), .int (nI ps), .ref b1, .ref b2])), (b1, .inl (cI, 4096, .inl g)), (b2, .inl (cJ, 4096, .inl t))] H := hP
      have hD : va_D A [(h0, .inr (1, [.int 1, .int (nI rc), .int (nI rl), .int (nI ps), .ref b1, .ref b2])), (b1, .inl (cI, 4096, .inl g)), (b2, .inl (cJ, 4096, .inl t))] := hD
      refine W.widen (k := 0) (n := 0) (Nat.le_refl _) (Nat.le_refl _) ?_
      exact W.iret (v := rz) hx hb hr (fun t ht hW => ⟨⟨rz, (), rfl, ez, by rw [ht]; exact hP, va_K.moved hW.alike hK, hD⟩, hS.F ht⟩) hS.2.2 dY1_passOf_30
    · refine lv_iload_n hx hb dY1_passOf_15 rfl (lv_at hl 2 rfl) ?_
      refine lv_if_lt (tgt := 25) hx hb dY1_passOf_16 (by decide) (fun q2 => ?_) (fun q2 => ?_)
      · refine lv_aload_n hx hb dY1_passOf_25 rfl (lv_at hl 0 rfl) ?_
        refine lv_iconst (v := 1) hx hb dY1_passOf_26 (by decide) ?_
        have hFc := va_free (wc := [(h0, .inr (1, [.int 0, .int (nI rc), .int (nI rl), .int (nI ps), .ref b1, .ref b2])), (b1, .inl (cI, 4096, .inl g)), (b2, .inl (cJ, 4096, .inl t))]) hD hS hA [0, 1, 2] rfl
        refine va_calli (va_runV (C := RX1) (As := [.int 1]) (rest := []) ⟨hx, hb, hml, hown, hts⟩ (c_Y1_fail l dC dI cI cJ h0 b1 b2 0 rc rl ps g t H.size 1) (cwV 1 hts gY1_passOf_Y1_fail rfl rfl rfl (by decide +kernel) ⟨Nat.le_of_ble_eq_true rfl, Nat.le_of_ble_eq_true rfl⟩) ⟨fun a U g mk q => by obtain ⟨q0, q1, qP, qK, qD⟩ := q; exact ⟨q0, q1, qP, va_K.moved (u := U) (U := U.calling g mk a) (Vm.Alike.refl U.vm) qK, qD⟩, va_recv hK hP (ci := 1) (q0 := 0) rfl rfl, fun U hU hW => ⟨rfl, by rw [hU], by rw [hU]; exact hP, va_K.moved hW.alike hK, hD.weaken (fun _ _ _ _ => trivial)⟩⟩ rfl rfl hl.1 rfl (lv_room (Nat.le_of_ble_eq_true rfl)) dY1_passOf_27 ⟨Nat.zero_le _, Nat.zero_le _⟩) hS (fun q _ h => hFc q h) hFc (fun rz u t9 H1 locs ht hvm ez hB hz1 hk1 hS => ?_)
        obtain ⟨hP1, hK1, hD1⟩ := hB
        rw [ht] at hP1
        obtain ⟨hP, hD⟩ := va_join (wr := []) (w1 := [(h0, .inr (1, [.int 1, .int (nI rc), .int (nI rl), .int (nI ps), .ref b1, .ref b2])), (b1, .inl (cI, 4096, .inl g)), (b2, .inl (cJ, 4096, .inl t))]) hP hD [0, 1, 2] [] rfl rfl (by decide) (by decide) hk1 hFc hP1 hD1
        generalize H1 = H at hP hS ⊢
        have hP : va_P (dC, dI) rw_cl [(h0, .inr (1, [.int 1, .int (nI rc), .int (nI rl), .int (nI ps), .ref b1, .ref b2])), (b1, .inl (cI, 4096, .inl g)), (b2, .inl (cJ, 4096, .inl t))] H := hP
        have hD : va_D A [(h0, .inr (1, [.int 1, .int (nI rc), .int (nI rl), .int (nI ps), .ref b1, .ref b2])), (b1, .inl (cI, 4096, .inl g)), (b2, .inl (cJ, 4096, .inl t))] := hD
        refine W.widen (k := 0) (n := 0) (Nat.le_refl _) (Nat.le_refl _) ?_
        exact W.iret (v := rz) hx hb hr (fun t ht hW => ⟨⟨rz, (), rfl, ez, by rw [ht]; exact hP, va_K.moved hW.alike hK, hD⟩, hS.F ht⟩) hS.2.2 dY1_passOf_30
      · refine lv_iload_n hx hb dY1_passOf_19 rfl (lv_at hl 2 rfl) ?_
        refine lv_ldc hx hb hown (hts (.constant RX1 68 (99999)) (by decide +kernel)) dY1_passOf_20 ?_
        refine lv_icmp_le (tgt := 31) hx hb dY1_passOf_22 (by decide) (fun q3 => ?_) (fun q3 => ?_)
        · exact absurd hb0 (by rintro (z | z | z | z); exact q0 z; exact q1 z; exact q2 z; exact Int32.not_lt.mpr q3 z)
        · refine lv_aload_n hx hb dY1_passOf_25 rfl (lv_at hl 0 rfl) ?_
          refine lv_iconst (v := 1) hx hb dY1_passOf_26 (by decide) ?_
          have hFc := va_free (wc := [(h0, .inr (1, [.int 0, .int (nI rc), .int (nI rl), .int (nI ps), .ref b1, .ref b2])), (b1, .inl (cI, 4096, .inl g)), (b2, .inl (cJ, 4096, .inl t))]) hD hS hA [0, 1, 2] rfl
          refine va_calli (va_runV (C := RX1) (As := [.int 1]) (rest := []) ⟨hx, hb, hml, hown, hts⟩ (c_Y1_fail l dC dI cI cJ h0 b1 b2 0 rc rl ps g t H.size 1) (cwV 1 hts gY1_passOf_Y1_fail rfl rfl rfl (by decide +kernel) ⟨Nat.le_of_ble_eq_true rfl, Nat.le_of_ble_eq_true rfl⟩) ⟨fun a U g mk q => by obtain ⟨q0, q1, qP, qK, qD⟩ := q; exact ⟨q0, q1, qP, va_K.moved (u := U) (U := U.calling g mk a) (Vm.Alike.refl U.vm) qK, qD⟩, va_recv hK hP (ci := 1) (q0 := 0) rfl rfl, fun U hU hW => ⟨rfl, by rw [hU], by rw [hU]; exact hP, va_K.moved hW.alike hK, hD.weaken (fun _ _ _ _ => trivial)⟩⟩ rfl rfl hl.1 rfl (lv_room (Nat.le_of_ble_eq_true rfl)) dY1_passOf_27 ⟨Nat.zero_le _, Nat.zero_le _⟩) hS (fun q _ h => hFc q h) hFc (fun rz u t9 H1 locs ht hvm ez hB hz1 hk1 hS => ?_)
          obtain ⟨hP1, hK1, hD1⟩ := hB
          rw [ht] at hP1
          obtain ⟨hP, hD⟩ := va_join (wr := []) (w1 := [(h0, .inr (1, [.int 1, .int (nI rc), .int (nI rl), .int (nI ps), .ref b1, .ref b2])), (b1, .inl (cI, 4096, .inl g)), (b2, .inl (cJ, 4096, .inl t))]) hP hD [0, 1, 2] [] rfl rfl (by decide) (by decide) hk1 hFc hP1 hD1
          generalize H1 = H at hP hS ⊢
          have hP : va_P (dC, dI) rw_cl [(h0, .inr (1, [.int 1, .int (nI rc), .int (nI rl), .int (nI ps), .ref b1, .ref b2])), (b1, .inl (cI, 4096, .inl g)), (b2, .inl (cJ, 4096, .inl t))] H := hP
          have hD : va_D A [(h0, .inr (1, [.int 1, .int (nI rc), .int (nI rl), .int (nI ps), .ref b1, .ref b2])), (b1, .inl (cI, 4096, .inl g)), (b2, .inl (cJ, 4096, .inl t))] := hD
          refine W.widen (k := 0) (n := 0) (Nat.le_refl _) (Nat.le_refl _) ?_
          exact W.iret (v := rz) hx hb hr (fun t ht hW => ⟨⟨rz, (), rfl, ez, by rw [ht]; exact hP, va_K.moved hW.alike hK, hD⟩, hS.F ht⟩) hS.2.2 dY1_passOf_30
end
section
set_option maxHeartbeats 4000000 in
set_option maxRecDepth 100000 in
theorem c_Y1_open (l : Launch) (dC : Nat → ClassId) (dI : Nat → Nat → Nat) (cI cJ : ClassId) (h0 b1 b2 : Nat) (fl : Int32) (rc rl ps : Nat) (g t : Nat → Int32) (sz : Nat) (h n z : Nat) (ok : rf_ok h n z) : Met l yY1_open wsY1_open ({ frames := 0, cells := 0, slots := 0, locals := 0 }) (va_Pc [.ref h0, .int (nI h), .int (nI n), .int (nI z)] (rv_preD dC dI cI cJ h0 b1 b2 fl rc rl ps g t sz)) (va_Qv (fun _ : Unit => True) (fun _ t9 => rv_B dC dI cI cJ h0 b1 b2 0 h n z (rf_p g (fun _ => 0) 0 (h * n)) t (va_A (rv_W h0 b1 b2 cI cJ fl rc rl ps g t) sz) t9) (va_A (rv_W h0 b1 b2 cI cJ fl rc rl ps g t) sz)) 0 0 (va_A (rv_W h0 b1 b2 cI cJ fl rc rl ps g t) sz) := by
  refine Met.ofW (cc := cY1_open) (maxL := 5) (ret := none) (by decide) rfl ?_
  intro p e s m args below meth c s₁ B hml hv
  obtain ⟨rfl, hsz, hP, hK, hD0⟩ := hv
  have hx := B.exec
  have hb := B.bytes
  have hr := B.returns
  have hts := atoms_spec (ws := wsY1_open) B.pre
  have hown : s.vm.findClass RX1 = some m.cls := findClass_of_methodNamed B.named
  have hlocks := B.notSynchronized
  subst hsz
  have hD := hD0.self (sz := s.heap.size)
  generalize hAe : va_A (rv_W h0 b1 b2 cI cJ fl rc rl ps g t) s.heap.size = A at hD ⊢
  have hA : ∀ q : Nat, s.heap.size ≤ q → A q := fun q h => by rw [← hAe]; exact Or.inr h
  have hS : va_S A s.heap s.heap [] := va_S.rf
  have hP : va_P (dC, dI) rw_cl (rv_W h0 b1 b2 cI cJ fl rc rl ps g t) s.heap := hP
  have hl := lv_entry ([.ref h0, .int (nI h), .int (nI n), .int (nI z)]) (n := 5) (Nat.le_of_ble_eq_true rfl)
  rw [lg_entry_eq]
  generalize (lg_sl ([.ref h0, .int (nI h), .int (nI n), .int (nI z)]) ++ List.replicate (5 - (lg_sl ([.ref h0, .int (nI h), .int (nI n), .int (nI z)])).length) Slot.unset).toArray = ls at hl ⊢
  have hl : lv_has ls 5 [(0, .ref h0), (1, .int (nI h)), (2, .int (nI n)), (3, .int (nI z))] := hl
  have h1 := ok.rc
  have h2 := ok.rl
  have h3 := ok.2.2.1
  have h4 := ok.2.2.2.2
  refine lv_aload_n hx hb dY1_open_0 rfl (lv_at hl 0 rfl) ?_
  refine lv_iconst (v := 0) hx hb dY1_open_1 (by decide) ?_
  refine va_put (D := (dC, dI)) (ci := 1) (v := .int 0) (ty := .int) (C := RX1) (T := TY1) (N := 6) hx hb hts (by decide +kernel) tyY1 tyY1_ok nmY1 hown hK hP hD hS 0 rfl rfl 0 (by decide) (hts (.fieldLink RX1 26 "RowFiltersModel" "failed" "I") (by decide +kernel)) (fun _ h9 => h9) rfl (by decide +kernel) rfl rfl (Nat.le_of_ble_eq_true rfl) dY1_open_2 (fun H locs hP hD hS => ?_)
  have hP : va_P (dC, dI) rw_cl [(h0, .inr (1, [.int 0, .int (nI rc), .int (nI rl), .int (nI ps), .ref b1, .ref b2])), (b1, .inl (cI, 4096, .inl g)), (b2, .inl (cJ, 4096, .inl t))] H := hP
  have hD : va_D A [(h0, .inr (1, [.int 0, .int (nI rc), .int (nI rl), .int (nI ps), .ref b1, .ref b2])), (b1, .inl (cI, 4096, .inl g)), (b2, .inl (cJ, 4096, .inl t))] := hD
  refine lv_iload_n hx hb dY1_open_5 rfl (lv_at hl 1 rfl) ?_
  refine lv_iconst (v := 1) hx hb dY1_open_6 (by decide) ?_
  refine lv_icmp_lt (tgt := 49) hx hb dY1_open_7 (by decide) (fun q0 => ?_) (fun q0 => ?_)
  · exact absurd q0 (nI_nlt (b := 1) ok.1 (by omega))
  · refine lv_iload_n hx hb dY1_open_10 rfl (lv_at hl 2 rfl) ?_
    refine lv_iconst (v := 1) hx hb dY1_open_11 (by decide) ?_
    refine lv_icmp_lt (tgt := 49) hx hb dY1_open_12 (by decide) (fun q1 => ?_) (fun q1 => ?_)
    · exact absurd q1 (nI_nlt (b := 1) ok.2.1 (by omega))
    · refine lv_iload_n hx hb dY1_open_15 rfl (lv_at hl 1 rfl) ?_
      refine lv_sipush (v := 4096) hx hb dY1_open_16 (by decide) ?_
      refine lv_icmp_gt (tgt := 49) hx hb dY1_open_19 (by decide) (fun q2 => ?_) (fun q2 => ?_)
      · exact absurd q2 (nI_nlt (a := 4096) h1 (by omega))
      · refine lv_iload_n hx hb dY1_open_22 rfl (lv_at hl 2 rfl) ?_
        refine lv_sipush (v := 4096) hx hb dY1_open_23 (by decide) ?_
        refine lv_icmp_gt (tgt := 49) hx hb dY1_open_26 (by decide) (fun q3 => ?_) (fun q3 => ?_)
        · exact absurd q3 (nI_nlt (a := 4096) h2 (by omega))
        · refine lv_iload_n hx hb dY1_open_29 rfl (lv_at hl 1 rfl) ?_
          refine lv_iload_n hx hb dY1_open_30 rfl (lv_at hl 2 rfl) ?_
          refine lv_imul hx hb dY1_open_31 ?_
          refine lv_sipush (v := 4096) hx hb dY1_open_32 (by decide) ?_
          refine lv_icmp_gt (tgt := 49) hx hb dY1_open_35 (by decide) (fun q4 => ?_) (fun q4 => ?_)
          · exact absurd q4 (by rw [rf_mul]; exact nI_nlt (a := 4096) h3 (by omega))
          · refine lv_iload_n hx hb dY1_open_38 rfl (lv_at hl 3 rfl) ?_
            refine lv_iconst (v := 1) hx hb dY1_open_39 (by decide) ?_
            refine lv_icmp_lt (tgt := 49) hx hb dY1_open_40 (by decide) (fun q5 => ?_) (fun q5 => ?_)
            · exact absurd q5 (nI_nlt (b := 1) ok.2.2.2.1 (by omega))
            · refine lv_iload_n hx hb dY1_open_43 rfl (lv_at hl 3 rfl) ?_
              refine lv_bipush (v := 8) hx hb dY1_open_44 (by decide) ?_
              refine lv_icmp_le (tgt := 57) hx hb dY1_open_46 (by decide) (fun q6 => ?_) (fun q6 => ?_)
              · refine lv_aload_n hx hb dY1_open_57 rfl (lv_at hl 0 rfl) ?_
                refine lv_iload_n hx hb dY1_open_58 rfl (lv_at hl 1 rfl) ?_
                refine va_put (D := (dC, dI)) (ci := 1) (v := .int (nI h)) (ty := .int) (C := RX1) (T := TY1) (N := 6) hx hb hts (by decide +kernel) tyY1 tyY1_ok nmY1 hown hK hP hD hS 0 rfl rfl 1 (by decide) (hts (.fieldLink RX1 7 "RowFiltersModel" "height" "I") (by decide +kernel)) (fun _ h9 => h9) rfl (by decide +kernel) rfl rfl (Nat.le_of_ble_eq_true rfl) dY1_open_59 (fun H locs hP hD hS => ?_)
                have hP : va_P (dC, dI) rw_cl [(h0, .inr (1, [.int 0, .int (nI h), .int (nI rl), .int (nI ps), .ref b1, .ref b2])), (b1, .inl (cI, 4096, .inl g)), (b2, .inl (cJ, 4096, .inl t))] H := hP
                have hD : va_D A [(h0, .inr (1, [.int 0, .int (nI h), .int (nI rl), .int (nI ps), .ref b1, .ref b2])), (b1, .inl (cI, 4096, .inl g)), (b2, .inl (cJ, 4096, .inl t))] := hD
                refine lv_aload_n hx hb dY1_open_62 rfl (lv_at hl 0 rfl) ?_
                refine lv_iload_n hx hb dY1_open_63 rfl (lv_at hl 2 rfl) ?_
                refine va_put (D := (dC, dI)) (ci := 1) (v := .int (nI n)) (ty := .int) (C := RX1) (T := TY1) (N := 6) hx hb hts (by decide +kernel) tyY1 tyY1_ok nmY1 hown hK hP hD hS 0 rfl rfl 2 (by decide) (hts (.fieldLink RX1 13 "RowFiltersModel" "width" "I") (by decide +kernel)) (fun _ h9 => h9) rfl (by decide +kernel) rfl rfl (Nat.le_of_ble_eq_true rfl) dY1_open_64 (fun H locs hP hD hS => ?_)
                have hP : va_P (dC, dI) rw_cl [(h0, .inr (1, [.int 0, .int (nI h), .int (nI n), .int (nI ps), .ref b1, .ref b2])), (b1, .inl (cI, 4096, .inl g)), (b2, .inl (cJ, 4096, .inl t))] H := hP
                have hD : va_D A [(h0, .inr (1, [.int 0, .int (nI h), .int (nI n), .int (nI ps), .ref b1, .ref b2])), (b1, .inl (cI, 4096, .inl g)), (b2, .inl (cJ, 4096, .inl t))] := hD
                refine lv_aload_n hx hb dY1_open_67 rfl (lv_at hl 0 rfl) ?_
                refine lv_iload_n hx hb dY1_open_68 rfl (lv_at hl 3 rfl) ?_
                refine va_put (D := (dC, dI)) (ci := 1) (v := .int (nI z)) (ty := .int) (C := RX1) (T := TY1) (N := 6) hx hb hts (by decide +kernel) tyY1 tyY1_ok nmY1 hown hK hP hD hS 0 rfl rfl 3 (by decide) (hts (.fieldLink RX1 16 "RowFiltersModel" "step" "I") (by decide +kernel)) (fun _ h9 => h9) rfl (by decide +kernel) rfl rfl (Nat.le_of_ble_eq_true rfl) dY1_open_69 (fun H locs hP hD hS => ?_)
                have hP : va_P (dC, dI) rw_cl [(h0, .inr (1, [.int 0, .int (nI h), .int (nI n), .int (nI z), .ref b1, .ref b2])), (b1, .inl (cI, 4096, .inl g)), (b2, .inl (cJ, 4096, .inl t))] H := hP
                have hD : va_D A [(h0, .inr (1, [.int 0, .int (nI h), .int (nI n), .int (nI z), .ref b1, .ref b2])), (b1, .inl (cI, 4096, .inl g)), (b2, .inl (cJ, 4096, .inl t))] := hD
                refine lv_iconst (v := 0) hx hb dY1_open_72 (by decide) ?_
                refine lv_istore hx hb dY1_open_73 hl (by decide) rfl (fun ls hl => ?_)
                have hl : lv_has ls 5 [(4, .int 0), (0, .ref h0), (1, .int (nI h)), (2, .int (nI n)), (3, .int (nI z))] := hl
                have e0 : g = (rf_p g (fun _ => 0) 0 (0)) := (rf_p_nil _ _ _).symm
                rw [e0] at hP hD
                refine rw_loopH (fun k : Nat => h * n - k) (fun k ls H locs => (k ≤ h * n) ∧ lv_has ls 5 [(0, .ref h0), (1, .int (nI h)), (2, .int (nI n)), (3, .int (nI z)), (4, .int (nI k))] ∧ va_P (dC, dI) rw_cl [(h0, .inr (1, [.int 0, .int (nI h), .int (nI n), .int (nI z), .ref b1, .ref b2])), (b1, .inl (cI, 4096, .inl (rf_p g (fun _ => 0) 0 k))), (b2, .inl (cJ, 4096, .inl t))] H ∧ va_D A [(h0, .inr (1, [.int 0, .int (nI h), .int (nI n), .int (nI z), .ref b1, .ref b2])), (b1, .inl (cI, 4096, .inl (rf_p g (fun _ => 0) 0 k))), (b2, .inl (cJ, 4096, .inl t))] ∧ va_S A s.heap H locs) ?_ (0) ⟨Nat.zero_le _, lv_sub hl [1, 2, 3, 4, 0] rfl, hP, hD, hS⟩
                intro k ls H locs hI ih
                obtain ⟨hj, hl, hP, hD, hS⟩ := hI
                refine lv_iload hx hb dY1_open_75 (lv_at hl 4 rfl) ?_
                refine lv_iload_n hx hb dY1_open_77 rfl (lv_at hl 1 rfl) ?_
                refine lv_iload_n hx hb dY1_open_78 rfl (lv_at hl 2 rfl) ?_
                refine lv_imul hx hb dY1_open_79 ?_
                refine W.eq (g2 := F0 m 80 ls [.int (nI (h * n)), .int (nI k)]) (congrArg (fun z9 => F0 m 80 ls [.int z9, .int (nI k)]) (show ((nI h) * (nI n)) = nI (h * n) from rf_mul h n)) ?_
                refine lv_icmp_ge (tgt := 97) hx hb dY1_open_80 (by decide) (fun hc => ?_) (fun hc => ?_)
                · have hi : k = h * n := by have := (nI_leI (by omega) (by omega)).mp hc; omega
                  rw [hi] at hP hD
                  exact W.vret hx hb hr (fun t ht hW => ⟨⟨(), rfl, trivial, by rw [ht]; exact hP, va_K.moved hW.alike hK, hD⟩, hS.F ht⟩) hS.2.2 dY1_open_97
                · have hi : k < h * n := Nat.lt_of_not_le (fun q => hc ((nI_leI (by omega) (by omega)).mpr q))
                  refine lv_aload_n hx hb dY1_open_83 rfl (lv_at hl 0 rfl) ?_
                  refine va_get (D := (dC, dI)) (ci := 1) (v := .ref b1) (C := RX1) (T := TY1) (N := 6) hx hb hts (by decide +kernel) hown hK hP 0 rfl rfl 4 (by decide) (hts (.fieldLink RX1 19 "RowFiltersModel" "bytes" "[I") (by decide +kernel)) (fun _ h9 => h9) rfl dY1_open_84 ?_
                  refine lv_iload hx hb dY1_open_87 (lv_at hl 4 rfl) ?_
                  refine lv_iconst (v := 0) hx hb dY1_open_89 (by decide) ?_
                  refine va_iast hx hb hK hP hD hS 1 0 rfl rfl (vp_in_nI (by omega) (by omega)) dY1_open_90 (fun H locs hP hD hS => ?_)
                  have hP : va_P (dC, dI) rw_cl [(h0, .inr (1, [.int 0, .int (nI h), .int (nI n), .int (nI z), .ref b1, .ref b2])), (b1, .inl (cI, 4096, .inl (upd (rf_p g (fun _ => 0) 0 k) (nI k).toNatClampNeg 0))), (b2, .inl (cJ, 4096, .inl t))] H := hP
                  have hD : va_D A [(h0, .inr (1, [.int 0, .int (nI h), .int (nI n), .int (nI z), .ref b1, .ref b2])), (b1, .inl (cI, 4096, .inl (upd (rf_p g (fun _ => 0) 0 k) (nI k).toNatClampNeg 0))), (b2, .inl (cJ, 4096, .inl t))] := hD
                  refine lv_iinc (k := 4) (v := (nI (k + 1))) hx hb dY1_open_91 hl rfl (rf_inc k) (by decide) rfl (fun ls hl => ?_)
                  have hl : lv_has ls 5 [(4, .int (nI (k + 1))), (0, .ref h0), (1, .int (nI h)), (2, .int (nI n)), (3, .int (nI z))] := hl
                  refine lv_goto (tgt := 75) hx hb dY1_open_94 (by decide) ?_
                  have e9 : (upd (rf_p g (fun _ => 0) 0 k) (nI k).toNatClampNeg 0) = (rf_p g (fun _ => 0) 0 (k + 1)) := by rw [nI_clamp (by omega)]; exact rf_p_up (Nat.zero_le _) rfl
                  rw [e9] at hP hD
                  exact ih (k + 1) _ _ _ (by show h * n - (k + 1) < h * n - k; omega) ⟨by omega, lv_sub hl [1, 2, 3, 4, 0] rfl, hP, hD, hS⟩
              · exact absurd (Int32.not_le.mp q6) (nI_nlt (a := 8) ok.2.2.2.2 (by omega))
set_option maxHeartbeats 4000000 in
set_option maxRecDepth 100000 in
theorem c_Y1_open_bad (l : Launch) (dC : Nat → ClassId) (dI : Nat → Nat → Nat) (cI cJ : ClassId) (h0 b1 b2 : Nat) (fl : Int32) (rc rl ps : Nat) (g t : Nat → Int32) (sz : Nat) (h n z : Int32) (hb0 : ¬ rf_op h n z) : Met l yY1_open wsY1_open ({ frames := 0, cells := 0, slots := 0, locals := 0 }) (va_Pc [.ref h0, .int h, .int n, .int z] (rv_preD dC dI cI cJ h0 b1 b2 fl rc rl ps g t sz)) (va_Qv (fun _ : Unit => True) (fun _ t9 => rv_B dC dI cI cJ h0 b1 b2 1 rc rl ps g t (va_A (rv_W h0 b1 b2 cI cJ fl rc rl ps g t) sz) t9) (va_A (rv_W h0 b1 b2 cI cJ fl rc rl ps g t) sz)) 0 0 (va_A (rv_W h0 b1 b2 cI cJ fl rc rl ps g t) sz) := by
  refine Met.ofW (cc := cY1_open) (maxL := 5) (ret := none) (by decide) rfl ?_
  intro p e s m args below meth c s₁ B hml hv
  obtain ⟨rfl, hsz, hP, hK, hD0⟩ := hv
  have hx := B.exec
  have hb := B.bytes
  have hr := B.returns
  have hts := atoms_spec (ws := wsY1_open) B.pre
  have hown : s.vm.findClass RX1 = some m.cls := findClass_of_methodNamed B.named
  have hlocks := B.notSynchronized
  subst hsz
  have hD := hD0.self (sz := s.heap.size)
  generalize hAe : va_A (rv_W h0 b1 b2 cI cJ fl rc rl ps g t) s.heap.size = A at hD ⊢
  have hA : ∀ q : Nat, s.heap.size ≤ q → A q := fun q h => by rw [← hAe]; exact Or.inr h
  have hS : va_S A s.heap s.heap [] := va_S.rf
  have hP : va_P (dC, dI) rw_cl (rv_W h0 b1 b2 cI cJ fl rc rl ps g t) s.heap := hP
  have hl := lv_entry ([.ref h0, .int h, .int n, .int z]) (n := 5) (Nat.le_of_ble_eq_true rfl)
  rw [lg_entry_eq]
  generalize (lg_sl ([.ref h0, .int h, .int n, .int z]) ++ List.replicate (5 - (lg_sl ([.ref h0, .int h, .int n, .int z])).length) Slot.unset).toArray = ls at hl ⊢
  have hl : lv_has ls 5 [(0, .ref h0), (1, .int h), (2, .int n), (3, .int z)] := hl
  refine lv_aload_n hx hb dY1_open_0 rfl (lv_at hl 0 rfl) ?_
  refine lv_iconst (v := 0) hx hb dY1_open_1 (by decide) ?_
  refine va_put (D := (dC, dI)) (ci := 1) (v := .int 0) (ty := .int) (C := RX1) (T := TY1) (N := 6) hx hb hts (by decide +kernel) tyY1 tyY1_ok nmY1 hown hK hP hD hS 0 rfl rfl 0 (by decide) (hts (.fieldLink RX1 26 "RowFiltersModel" "failed" "I") (by decide +kernel)) (fun _ h9 => h9) rfl (by decide +kernel) rfl rfl (Nat.le_of_ble_eq_true rfl) dY1_open_2 (fun H locs hP hD hS => ?_)
  have hP : va_P (dC, dI) rw_cl [(h0, .inr (1, [.int 0, .int (nI rc), .int (nI rl), .int (nI ps), .ref b1, .ref b2])), (b1, .inl (cI, 4096, .inl g)), (b2, .inl (cJ, 4096, .inl t))] H := hP
  have hD : va_D A [(h0, .inr (1, [.int 0, .int (nI rc), .int (nI rl), .int (nI ps), .ref b1, .ref b2])), (b1, .inl (cI, 4096, .inl g)), (b2, .inl (cJ, 4096, .inl t))] := hD
  refine lv_iload_n hx hb dY1_open_5 rfl (lv_at hl 1 rfl) ?_
  refine lv_iconst (v := 1) hx hb dY1_open_6 (by decide) ?_
  refine lv_icmp_lt (tgt := 49) hx hb dY1_open_7 (by decide) (fun q0 => ?_) (fun q0 => ?_)
  · refine lv_aload_n hx hb dY1_open_49 rfl (lv_at hl 0 rfl) ?_
    refine lv_iconst (v := 1) hx hb dY1_open_50 (by decide) ?_
    refine va_put (D := (dC, dI)) (ci := 1) (v := .int 1) (ty := .int) (C := RX1) (T := TY1) (N := 6) hx hb hts (by decide +kernel) tyY1 tyY1_ok nmY1 hown hK hP hD hS 0 rfl rfl 0 (by decide) (hts (.fieldLink RX1 26 "RowFiltersModel" "failed" "I") (by decide +kernel)) (fun _ h9 => h9) rfl (by decide +kernel) rfl rfl (Nat.le_of_ble_eq_true rfl) dY1_open_51 (fun H locs hP hD hS => ?_)
    have hP : va_P (dC, dI) rw_cl [(h0, .inr (1, [.int 1, .int (nI rc), .int (nI rl), .int (nI ps), .ref b1, .ref b2])), (b1, .inl (cI, 4096, .inl g)), (b2, .inl (cJ, 4096, .inl t))] H := hP
    have hD : va_D A [(h0, .inr (1, [.int 1, .int (nI rc), .int (nI rl), .int (nI ps), .ref b1, .ref b2])), (b1, .inl (cI, 4096, .inl g)), (b2, .inl (cJ, 4096, .inl t))] := hD
    refine lv_goto (tgt := 97) hx hb dY1_open_54 (by decide) ?_
    exact W.vret hx hb hr (fun t ht hW => ⟨⟨(), rfl, trivial, by rw [ht]; exact hP, va_K.moved hW.alike hK, hD⟩, hS.F ht⟩) hS.2.2 dY1_open_97
  · refine lv_iload_n hx hb dY1_open_10 rfl (lv_at hl 2 rfl) ?_
    refine lv_iconst (v := 1) hx hb dY1_open_11 (by decide) ?_
    refine lv_icmp_lt (tgt := 49) hx hb dY1_open_12 (by decide) (fun q1 => ?_) (fun q1 => ?_)
    · refine lv_aload_n hx hb dY1_open_49 rfl (lv_at hl 0 rfl) ?_
      refine lv_iconst (v := 1) hx hb dY1_open_50 (by decide) ?_
      refine va_put (D := (dC, dI)) (ci := 1) (v := .int 1) (ty := .int) (C := RX1) (T := TY1) (N := 6) hx hb hts (by decide +kernel) tyY1 tyY1_ok nmY1 hown hK hP hD hS 0 rfl rfl 0 (by decide) (hts (.fieldLink RX1 26 "RowFiltersModel" "failed" "I") (by decide +kernel)) (fun _ h9 => h9) rfl (by decide +kernel) rfl rfl (Nat.le_of_ble_eq_true rfl) dY1_open_51 (fun H locs hP hD hS => ?_)
      have hP : va_P (dC, dI) rw_cl [(h0, .inr (1, [.int 1, .int (nI rc), .int (nI rl), .int (nI ps), .ref b1, .ref b2])), (b1, .inl (cI, 4096, .inl g)), (b2, .inl (cJ, 4096, .inl t))] H := hP
      have hD : va_D A [(h0, .inr (1, [.int 1, .int (nI rc), .int (nI rl), .int (nI ps), .ref b1, .ref b2])), (b1, .inl (cI, 4096, .inl g)), (b2, .inl (cJ, 4096, .inl t))] := hD
      refine lv_goto (tgt := 97) hx hb dY1_open_54 (by decide) ?_
      exact W.vret hx hb hr (fun t ht hW => ⟨⟨(), rfl, trivial, by rw [ht]; exact hP, va_K.moved hW.alike hK, hD⟩, hS.F ht⟩) hS.2.2 dY1_open_97
    · refine lv_iload_n hx hb dY1_open_15 rfl (lv_at hl 1 rfl) ?_
      refine lv_sipush (v := 4096) hx hb dY1_open_16 (by decide) ?_
      refine lv_icmp_gt (tgt := 49) hx hb dY1_open_19 (by decide) (fun q2 => ?_) (fun q2 => ?_)
      · refine lv_aload_n hx hb dY1_open_49 rfl (lv_at hl 0 rfl) ?_
        refine lv_iconst (v := 1) hx hb dY1_open_50 (by decide) ?_
        refine va_put (D := (dC, dI)) (ci := 1) (v := .int 1) (ty := .int) (C := RX1) (T := TY1) (N := 6) hx hb hts (by decide +kernel) tyY1 tyY1_ok nmY1 hown hK hP hD hS 0 rfl rfl 0 (by decide) (hts (.fieldLink RX1 26 "RowFiltersModel" "failed" "I") (by decide +kernel)) (fun _ h9 => h9) rfl (by decide +kernel) rfl rfl (Nat.le_of_ble_eq_true rfl) dY1_open_51 (fun H locs hP hD hS => ?_)
        have hP : va_P (dC, dI) rw_cl [(h0, .inr (1, [.int 1, .int (nI rc), .int (nI rl), .int (nI ps), .ref b1, .ref b2])), (b1, .inl (cI, 4096, .inl g)), (b2, .inl (cJ, 4096, .inl t))] H := hP
        have hD : va_D A [(h0, .inr (1, [.int 1, .int (nI rc), .int (nI rl), .int (nI ps), .ref b1, .ref b2])), (b1, .inl (cI, 4096, .inl g)), (b2, .inl (cJ, 4096, .inl t))] := hD
        refine lv_goto (tgt := 97) hx hb dY1_open_54 (by decide) ?_
        exact W.vret hx hb hr (fun t ht hW => ⟨⟨(), rfl, trivial, by rw [ht]; exact hP, va_K.moved hW.alike hK, hD⟩, hS.F ht⟩) hS.2.2 dY1_open_97
      · refine lv_iload_n hx hb dY1_open_22 rfl (lv_at hl 2 rfl) ?_
        refine lv_sipush (v := 4096) hx hb dY1_open_23 (by decide) ?_
        refine lv_icmp_gt (tgt := 49) hx hb dY1_open_26 (by decide) (fun q3 => ?_) (fun q3 => ?_)
        · refine lv_aload_n hx hb dY1_open_49 rfl (lv_at hl 0 rfl) ?_
          refine lv_iconst (v := 1) hx hb dY1_open_50 (by decide) ?_
          refine va_put (D := (dC, dI)) (ci := 1) (v := .int 1) (ty := .int) (C := RX1) (T := TY1) (N := 6) hx hb hts (by decide +kernel) tyY1 tyY1_ok nmY1 hown hK hP hD hS 0 rfl rfl 0 (by decide) (hts (.fieldLink RX1 26 "RowFiltersModel" "failed" "I") (by decide +kernel)) (fun _ h9 => h9) rfl (by decide +kernel) rfl rfl (Nat.le_of_ble_eq_true rfl) dY1_open_51 (fun H locs hP hD hS => ?_)
          have hP : va_P (dC, dI) rw_cl [(h0, .inr (1, [.int 1, .int (nI rc), .int (nI rl), .int (nI ps), .ref b1, .ref b2])), (b1, .inl (cI, 4096, .inl g)), (b2, .inl (cJ, 4096, .inl t))] H := hP
          have hD : va_D A [(h0, .inr (1, [.int 1, .int (nI rc), .int (nI rl), .int (nI ps), .ref b1, .ref b2])), (b1, .inl (cI, 4096, .inl g)), (b2, .inl (cJ, 4096, .inl t))] := hD
          refine lv_goto (tgt := 97) hx hb dY1_open_54 (by decide) ?_
          exact W.vret hx hb hr (fun t ht hW => ⟨⟨(), rfl, trivial, by rw [ht]; exact hP, va_K.moved hW.alike hK, hD⟩, hS.F ht⟩) hS.2.2 dY1_open_97
        · refine lv_iload_n hx hb dY1_open_29 rfl (lv_at hl 1 rfl) ?_
          refine lv_iload_n hx hb dY1_open_30 rfl (lv_at hl 2 rfl) ?_
          refine lv_imul hx hb dY1_open_31 ?_
          refine lv_sipush (v := 4096) hx hb dY1_open_32 (by decide) ?_
          refine lv_icmp_gt (tgt := 49) hx hb dY1_open_35 (by decide) (fun q4 => ?_) (fun q4 => ?_)
          · refine lv_aload_n hx hb dY1_open_49 rfl (lv_at hl 0 rfl) ?_
            refine lv_iconst (v := 1) hx hb dY1_open_50 (by decide) ?_
            refine va_put (D := (dC, dI)) (ci := 1) (v := .int 1) (ty := .int) (C := RX1) (T := TY1) (N := 6) hx hb hts (by decide +kernel) tyY1 tyY1_ok nmY1 hown hK hP hD hS 0 rfl rfl 0 (by decide) (hts (.fieldLink RX1 26 "RowFiltersModel" "failed" "I") (by decide +kernel)) (fun _ h9 => h9) rfl (by decide +kernel) rfl rfl (Nat.le_of_ble_eq_true rfl) dY1_open_51 (fun H locs hP hD hS => ?_)
            have hP : va_P (dC, dI) rw_cl [(h0, .inr (1, [.int 1, .int (nI rc), .int (nI rl), .int (nI ps), .ref b1, .ref b2])), (b1, .inl (cI, 4096, .inl g)), (b2, .inl (cJ, 4096, .inl t))] H := hP
            have hD : va_D A [(h0, .inr (1, [.int 1, .int (nI rc), .int (nI rl), .int (nI ps), .ref b1, .ref b2])), (b1, .inl (cI, 4096, .inl g)), (b2, .inl (cJ, 4096, .inl t))] := hD
            refine lv_goto (tgt := 97) hx hb dY1_open_54 (by decide) ?_
            exact W.vret hx hb hr (fun t ht hW => ⟨⟨(), rfl, trivial, by rw [ht]; exact hP, va_K.moved hW.alike hK, hD⟩, hS.F ht⟩) hS.2.2 dY1_open_97
          · refine lv_iload_n hx hb dY1_open_38 rfl (lv_at hl 3 rfl) ?_
            refine lv_iconst (v := 1) hx hb dY1_open_39 (by decide) ?_
            refine lv_icmp_lt (tgt := 49) hx hb dY1_open_40 (by decide) (fun q5 => ?_) (fun q5 => ?_)
            · refine lv_aload_n hx hb dY1_open_49 rfl (lv_at hl 0 rfl) ?_
              refine lv_iconst (v := 1) hx hb dY1_open_50 (by decide) ?_
              refine va_put (D := (dC, dI)) (ci := 1) (v := .int 1) (ty := .int) (C := RX1) (T := TY1) (N := 6) hx hb hts (by decide +kernel) tyY1 tyY1_ok nmY1 hown hK hP hD hS 0 rfl rfl 0 (by decide) (hts (.fieldLink RX1 26 "RowFiltersModel" "failed" "I") (by decide +kernel)) (fun _ h9 => h9) rfl (by decide +kernel) rfl rfl (Nat.le_of_ble_eq_true rfl) dY1_open_51 (fun H locs hP hD hS => ?_)
              have hP : va_P (dC, dI) rw_cl [(h0, .inr (1, [.int 1, .int (nI rc), .int (nI rl), .int (nI ps), .ref b1, .ref b2])), (b1, .inl (cI, 4096, .inl g)), (b2, .inl (cJ, 4096, .inl t))] H := hP
              have hD : va_D A [(h0, .inr (1, [.int 1, .int (nI rc), .int (nI rl), .int (nI ps), .ref b1, .ref b2])), (b1, .inl (cI, 4096, .inl g)), (b2, .inl (cJ, 4096, .inl t))] := hD
              refine lv_goto (tgt := 97) hx hb dY1_open_54 (by decide) ?_
              exact W.vret hx hb hr (fun t ht hW => ⟨⟨(), rfl, trivial, by rw [ht]; exact hP, va_K.moved hW.alike hK, hD⟩, hS.F ht⟩) hS.2.2 dY1_open_97
            · refine lv_iload_n hx hb dY1_open_43 rfl (lv_at hl 3 rfl) ?_
              refine lv_bipush (v := 8) hx hb dY1_open_44 (by decide) ?_
              refine lv_icmp_le (tgt := 57) hx hb dY1_open_46 (by decide) (fun q6 => ?_) (fun q6 => ?_)
              · exact absurd ⟨q0, q1, q2, q3, q4, q5, Int32.not_lt.mpr q6⟩ hb0
              · refine lv_aload_n hx hb dY1_open_49 rfl (lv_at hl 0 rfl) ?_
                refine lv_iconst (v := 1) hx hb dY1_open_50 (by decide) ?_
                refine va_put (D := (dC, dI)) (ci := 1) (v := .int 1) (ty := .int) (C := RX1) (T := TY1) (N := 6) hx hb hts (by decide +kernel) tyY1 tyY1_ok nmY1 hown hK hP hD hS 0 rfl rfl 0 (by decide) (hts (.fieldLink RX1 26 "RowFiltersModel" "failed" "I") (by decide +kernel)) (fun _ h9 => h9) rfl (by decide +kernel) rfl rfl (Nat.le_of_ble_eq_true rfl) dY1_open_51 (fun H locs hP hD hS => ?_)
                have hP : va_P (dC, dI) rw_cl [(h0, .inr (1, [.int 1, .int (nI rc), .int (nI rl), .int (nI ps), .ref b1, .ref b2])), (b1, .inl (cI, 4096, .inl g)), (b2, .inl (cJ, 4096, .inl t))] H := hP
                have hD : va_D A [(h0, .inr (1, [.int 1, .int (nI rc), .int (nI rl), .int (nI ps), .ref b1, .ref b2])), (b1, .inl (cI, 4096, .inl g)), (b2, .inl (cJ, 4096, .inl t))] := hD
                refine lv_goto (tgt := 97) hx hb dY1_open_54 (by decide) ?_
                exact W.vret hx hb hr (fun t ht hW => ⟨⟨(), rfl, trivial, by rw [ht]; exact hP, va_K.moved hW.alike hK, hD⟩, hS.F ht⟩) hS.2.2 dY1_open_97
end
section
abbrev rj_preD (dC : Nat → ClassId) (dI : Nat → Nat → Nat) (cI : ClassId) (ab : Nat) (f : Nat → Int32) (sz : Nat) (U : State) : Prop := U.heap.size = sz ∧ va_P (dC, dI) rw_cl [(ab, .inl (cI, 4096, .inl f))] U.heap ∧ va_K (dC, dI) rw_cl [(cI, .int)] U ∧ va_D (fun _ => True) [(ab, .inl (cI, 4096, .inl f))]
abbrev rj_B (dC : Nat → ClassId) (dI : Nat → Nat → Nat) (cI : ClassId) (ab : Nat) (f : Nat → Int32) (A : Nat → Prop) (t : State) : Prop := va_P (dC, dI) rw_cl [(ab, .inl (cI, 4096, .inl f))] t.heap ∧ va_K (dC, dI) rw_cl [(cI, .int)] t ∧ va_D A [(ab, .inl (cI, 4096, .inl f))]
set_option maxHeartbeats 4000000 in
set_option maxRecDepth 100000 in
theorem c_J7_fill_53178 (l : Launch) (dC : Nat → ClassId) (dI : Nat → Nat → Nat) (cI : ClassId) (ab : Nat) (f : Nat → Int32) (sz : Nat) (v : Int32) : Met l yJ7_fill_53178 wsJ7_fill_53178 ({ frames := 0, cells := 0, slots := 0, locals := 0 }) (va_Pc [.ref ab, .int v] (rj_preD dC dI cI ab f sz)) (va_Qv (fun _ : Unit => True) (fun _ t9 => rj_B dC dI cI ab (rf_p f (fun _ => v) 0 4096) (va_A ([(ab, .inl (cI, 4096, .inl f))]) sz) t9) (va_A ([(ab, .inl (cI, 4096, .inl f))]) sz)) 0 0 (va_A ([(ab, .inl (cI, 4096, .inl f))]) sz) := by
  refine Met.ofW (cc := cJ7_fill_53178) (maxL := 4) (ret := none) (by decide) rfl ?_
  intro p e s m args below meth c s₁ B hml hv
  obtain ⟨rfl, hsz, hP, hK, hD0⟩ := hv
  have hx := B.exec
  have hb := B.bytes
  have hr := B.returns
  have hts := atoms_spec (ws := wsJ7_fill_53178) B.pre
  have hown : s.vm.findClass RJ7 = some m.cls := findClass_of_methodNamed B.named
  have hlocks := B.notSynchronized
  subst hsz
  have hD := hD0.self (sz := s.heap.size)
  generalize hAe : va_A ([(ab, .inl (cI, 4096, .inl f))]) s.heap.size = A at hD ⊢
  have hA : ∀ q : Nat, s.heap.size ≤ q → A q := fun q h => by rw [← hAe]; exact Or.inr h
  have hS : va_S A s.heap s.heap [] := va_S.rf
  have hP : va_P (dC, dI) rw_cl ([(ab, .inl (cI, 4096, .inl f))]) s.heap := hP
  have hl := lv_entry ([.ref ab, .int v]) (n := 4) (Nat.le_of_ble_eq_true rfl)
  rw [lg_entry_eq]
  generalize (lg_sl ([.ref ab, .int v]) ++ List.replicate (4 - (lg_sl ([.ref ab, .int v])).length) Slot.unset).toArray = ls at hl ⊢
  have hl : lv_has ls 4 [(0, .ref ab), (1, .int v)] := hl
  refine lv_iconst (v := 0) hx hb dJ7_fill_53178_0 (by decide) ?_
  refine lv_istore_n hx hb dJ7_fill_53178_1 rfl hl (by decide) rfl (fun ls hl => ?_)
  have hl : lv_has ls 4 [(2, .int 0), (0, .ref ab), (1, .int v)] := hl
  refine lv_aload_n hx hb dJ7_fill_53178_2 rfl (lv_at hl 1 rfl) ?_
  refine va_alen (v := 4096) hx hb hK hP 0 0 rfl rfl rfl dJ7_fill_53178_3 ?_
  refine lv_istore_n hx hb dJ7_fill_53178_4 rfl hl (by decide) rfl (fun ls hl => ?_)
  have hl : lv_has ls 4 [(3, .int 4096), (2, .int 0), (0, .ref ab), (1, .int v)] := hl
  have e0 : f = (rf_p f (fun _ => v) 0 (0)) := (rf_p_nil _ _ _).symm
  rw [e0] at hP hD
  refine rw_loopH (fun k : Nat => 4096 - k) (fun k ls H locs => (k ≤ 4096) ∧ lv_has ls 4 [(0, .ref ab), (1, .int v), (2, .int (nI k)), (3, .int 4096)] ∧ va_P (dC, dI) rw_cl [(ab, .inl (cI, 4096, .inl (rf_p f (fun _ => v) 0 k)))] H ∧ va_D A [(ab, .inl (cI, 4096, .inl (rf_p f (fun _ => v) 0 k)))] ∧ va_S A s.heap H locs) ?_ (0) ⟨Nat.zero_le _, lv_sub hl [2, 3, 1, 0] rfl, hP, hD, hS⟩
  intro k ls H locs hI ih
  obtain ⟨hj, hl, hP, hD, hS⟩ := hI
  refine lv_iload_n hx hb dJ7_fill_53178_5 rfl (lv_at hl 2 rfl) ?_
  refine lv_iload_n hx hb dJ7_fill_53178_6 rfl (lv_at hl 3 rfl) ?_
  refine lv_icmp_ge (tgt := 20) hx hb dJ7_fill_53178_7 (by decide) (fun hc => ?_) (fun hc => ?_)
  · have hi : k = 4096 := by have := (nI_leI (a := 4096) (by omega) (by omega)).mp hc; omega
    rw [hi] at hP hD
    exact W.vret hx hb hr (fun t ht hW => ⟨⟨(), rfl, trivial, by rw [ht]; exact hP, va_K.moved hW.alike hK, hD⟩, hS.F ht⟩) hS.2.2 dJ7_fill_53178_20
  · have hi : k < 4096 := Nat.lt_of_not_le (fun q => hc ((nI_leI (a := 4096) (by omega) (by omega)).mpr q))
    refine lv_aload_n hx hb dJ7_fill_53178_10 rfl (lv_at hl 0 rfl) ?_
    refine lv_iload_n hx hb dJ7_fill_53178_11 rfl (lv_at hl 2 rfl) ?_
    refine lv_iload_n hx hb dJ7_fill_53178_12 rfl (lv_at hl 1 rfl) ?_
    refine va_iast hx hb hK hP hD hS 0 0 rfl rfl (vp_in_nI (by omega) (by omega)) dJ7_fill_53178_13 (fun H locs hP hD hS => ?_)
    have hP : va_P (dC, dI) rw_cl [(ab, .inl (cI, 4096, .inl (upd (rf_p f (fun _ => v) 0 k) (nI k).toNatClampNeg v)))] H := hP
    have hD : va_D A [(ab, .inl (cI, 4096, .inl (upd (rf_p f (fun _ => v) 0 k) (nI k).toNatClampNeg v)))] := hD
    refine lv_iinc (k := 2) (v := (nI (k + 1))) hx hb dJ7_fill_53178_14 hl rfl (rf_inc k) (by decide) rfl (fun ls hl => ?_)
    have hl : lv_has ls 4 [(2, .int (nI (k + 1))), (0, .ref ab), (1, .int v), (3, .int 4096)] := hl
    refine lv_goto (tgt := 5) hx hb dJ7_fill_53178_17 (by decide) ?_
    have e9 : (upd (rf_p f (fun _ => v) 0 k) (nI k).toNatClampNeg v) = (rf_p f (fun _ => v) 0 (k + 1)) := by rw [nI_clamp (by omega)]; exact rf_p_up (Nat.zero_le _) rfl
    rw [e9] at hP hD
    exact ih (k + 1) _ _ _ (by show 4096 - (k + 1) < 4096 - k; omega) ⟨by omega, lv_sub hl [1, 2, 0, 3] rfl, hP, hD, hS⟩
set_option maxHeartbeats 4000000 in
set_option maxRecDepth 100000 in
theorem c_X0_open (l : Launch) (dC : Nat → ClassId) (dI : Nat → Nat → Nat) (cI : ClassId) (h0 ab rc rl ps : Nat) (f : Nat → Int32) (sz : Nat) (h n z : Nat) (ok : rf_ok h n z) : Met l yX0_open wsX0_open ({ frames := 1, cells := 0, slots := 0, locals := 23 }) (va_Pc [.ref h0, .int (nI h), .int (nI n), .int (nI z)] (rw_preD dC dI cI h0 ab rc rl ps f sz)) (va_Qv (fun _ : Unit => True) (fun _ t9 => rw_B dC dI cI h0 ab h n z (rf_p f (fun _ => 0) 0 4096) (va_A (rw_W h0 ab cI rc rl ps f) sz) t9) (va_A (rw_W h0 ab cI rc rl ps f) sz)) 0 0 (va_A (rw_W h0 ab cI rc rl ps f) sz) := by
  refine Met.ofW (cc := cX0_open) (maxL := 4) (ret := none) (by decide) rfl ?_
  intro p e s m args below meth c s₁ B hml hv
  obtain ⟨rfl, hsz, hP, hK, hD0⟩ := hv
  have hx := B.exec
  have hb := B.bytes
  have hr := B.returns
  have hts := atoms_spec (ws := wsX0_open) B.pre
  have hown : s.vm.findClass RX0 = some m.cls := findClass_of_methodNamed B.named
  have hlocks := B.notSynchronized
  subst hsz
  have hD := hD0.self (sz := s.heap.size)
  generalize hAe : va_A (rw_W h0 ab cI rc rl ps f) s.heap.size = A at hD ⊢
  have hA : ∀ q : Nat, s.heap.size ≤ q → A q := fun q h => by rw [← hAe]; exact Or.inr h
  have hS : va_S A s.heap s.heap [] := va_S.rf
  have hP : va_P (dC, dI) rw_cl (rw_W h0 ab cI rc rl ps f) s.heap := hP
  have hl := lv_entry ([.ref h0, .int (nI h), .int (nI n), .int (nI z)]) (n := 4) (Nat.le_of_ble_eq_true rfl)
  rw [lg_entry_eq]
  generalize (lg_sl ([.ref h0, .int (nI h), .int (nI n), .int (nI z)]) ++ List.replicate (4 - (lg_sl ([.ref h0, .int (nI h), .int (nI n), .int (nI z)])).length) Slot.unset).toArray = ls at hl ⊢
  have hl : lv_has ls 4 [(0, .ref h0), (1, .int (nI h)), (2, .int (nI n)), (3, .int (nI z))] := hl
  have h1 := ok.rc
  have h2 := ok.rl
  have h3 := ok.2.2.1
  have h4 := ok.2.2.2.2
  have h5 : 1 ≤ h * n := Nat.mul_pos ok.1 ok.2.1
  refine lv_iload_n hx hb dX0_open_0 rfl (lv_at hl 1 rfl) ?_
  refine lv_iconst (v := 1) hx hb dX0_open_1 (by decide) ?_
  refine lv_sipush (v := 4096) hx hb dX0_open_2 (by decide) ?_
  refine va_csv (W.runS (As := [.int (nI h), .int 1, .int 4096]) (rest := []) ⟨hx, hb, hml, hown, hts⟩ (c_X0_requireWithin l (nI h) 1 4096 (nI_nlt (b := 1) ok.1 (by omega)) (nI_nlt (a := 4096) h1 (by omega))) (va_cwS 3 hts gX0_open_X0_requireWithin rfl rfl rfl (by decide +kernel) ⟨Nat.le_of_ble_eq_true rfl, Nat.le_of_ble_eq_true rfl⟩) ⟨fun _ _ _ _ q => q, fun U hU hW => ⟨rfl, trivial⟩⟩ rfl rfl hl.1 rfl (lv_room (Nat.le_of_ble_eq_true rfl)) dX0_open_5 ⟨Nat.zero_le _, Nat.zero_le _⟩) (fun _ => ?_)
  refine lv_iload_n hx hb dX0_open_8 rfl (lv_at hl 2 rfl) ?_
  refine lv_iconst (v := 1) hx hb dX0_open_9 (by decide) ?_
  refine lv_sipush (v := 4096) hx hb dX0_open_10 (by decide) ?_
  refine va_csv (W.runS (As := [.int (nI n), .int 1, .int 4096]) (rest := []) ⟨hx, hb, hml, hown, hts⟩ (c_X0_requireWithin l (nI n) 1 4096 (nI_nlt (b := 1) ok.2.1 (by omega)) (nI_nlt (a := 4096) h2 (by omega))) (va_cwS 3 hts gX0_open_X0_requireWithin rfl rfl rfl (by decide +kernel) ⟨Nat.le_of_ble_eq_true rfl, Nat.le_of_ble_eq_true rfl⟩) ⟨fun _ _ _ _ q => q, fun U hU hW => ⟨rfl, trivial⟩⟩ rfl rfl hl.1 rfl (lv_room (Nat.le_of_ble_eq_true rfl)) dX0_open_13 ⟨Nat.zero_le _, Nat.zero_le _⟩) (fun _ => ?_)
  refine lv_iload_n hx hb dX0_open_16 rfl (lv_at hl 1 rfl) ?_
  refine lv_iload_n hx hb dX0_open_17 rfl (lv_at hl 2 rfl) ?_
  refine lv_imul hx hb dX0_open_18 ?_
  refine W.eq (g2 := F0 m 19 ls [.int (nI (h * n))]) (congrArg (fun z9 => F0 m 19 ls [.int z9]) (show ((nI h) * (nI n)) = nI (h * n) from rf_mul h n)) ?_
  refine lv_iconst (v := 1) hx hb dX0_open_19 (by decide) ?_
  refine lv_sipush (v := 4096) hx hb dX0_open_20 (by decide) ?_
  refine va_csv (W.runS (As := [.int (nI (h * n)), .int 1, .int 4096]) (rest := []) ⟨hx, hb, hml, hown, hts⟩ (c_X0_requireWithin l (nI (h * n)) 1 4096 (nI_nlt (b := 1) h5 (by omega)) (nI_nlt (a := 4096) h3 (by omega))) (va_cwS 3 hts gX0_open_X0_requireWithin rfl rfl rfl (by decide +kernel) ⟨Nat.le_of_ble_eq_true rfl, Nat.le_of_ble_eq_true rfl⟩) ⟨fun _ _ _ _ q => q, fun U hU hW => ⟨rfl, trivial⟩⟩ rfl rfl hl.1 rfl (lv_room (Nat.le_of_ble_eq_true rfl)) dX0_open_23 ⟨Nat.zero_le _, Nat.zero_le _⟩) (fun _ => ?_)
  refine lv_iload_n hx hb dX0_open_26 rfl (lv_at hl 3 rfl) ?_
  refine lv_iconst (v := 1) hx hb dX0_open_27 (by decide) ?_
  refine lv_bipush (v := 8) hx hb dX0_open_28 (by decide) ?_
  refine va_csv (W.runS (As := [.int (nI z), .int 1, .int 8]) (rest := []) ⟨hx, hb, hml, hown, hts⟩ (c_X0_requireWithin l (nI z) 1 8 (nI_nlt (b := 1) ok.2.2.2.1 (by omega)) (nI_nlt (a := 8) h4 (by omega))) (va_cwS 3 hts gX0_open_X0_requireWithin rfl rfl rfl (by decide +kernel) ⟨Nat.le_of_ble_eq_true rfl, Nat.le_of_ble_eq_true rfl⟩) ⟨fun _ _ _ _ q => q, fun U hU hW => ⟨rfl, trivial⟩⟩ rfl rfl hl.1 rfl (lv_room (Nat.le_of_ble_eq_true rfl)) dX0_open_30 ⟨Nat.zero_le _, Nat.zero_le _⟩) (fun _ => ?_)
  refine lv_aload_n hx hb dX0_open_33 rfl (lv_at hl 0 rfl) ?_
  refine lv_iload_n hx hb dX0_open_34 rfl (lv_at hl 1 rfl) ?_
  refine va_put (D := (dC, dI)) (ci := 0) (v := .int (nI h)) (ty := .int) (C := RX0) (T := TX0) (N := 4) hx hb hts (by decide +kernel) tyX0 tyX0_ok nmX0 hown hK hP hD hS 0 rfl rfl 1 (by decide) (hts (.fieldLink RX0 13 "RowFilters" "rowCount" "I") (by decide +kernel)) (fun _ h9 => h9) rfl (by decide +kernel) rfl rfl (Nat.le_of_ble_eq_true rfl) dX0_open_35 (fun H locs hP hD hS => ?_)
  have hP : va_P (dC, dI) rw_cl [(h0, .inr (0, [.ref ab, .int (nI h), .int (nI rl), .int (nI ps)])), (ab, .inl (cI, 4096, .inl f))] H := hP
  have hD : va_D A [(h0, .inr (0, [.ref ab, .int (nI h), .int (nI rl), .int (nI ps)])), (ab, .inl (cI, 4096, .inl f))] := hD
  refine lv_aload_n hx hb dX0_open_38 rfl (lv_at hl 0 rfl) ?_
  refine lv_iload_n hx hb dX0_open_39 rfl (lv_at hl 2 rfl) ?_
  refine va_put (D := (dC, dI)) (ci := 0) (v := .int (nI n)) (ty := .int) (C := RX0) (T := TX0) (N := 4) hx hb hts (by decide +kernel) tyX0 tyX0_ok nmX0 hown hK hP hD hS 0 rfl rfl 2 (by decide) (hts (.fieldLink RX0 17 "RowFilters" "rowLength" "I") (by decide +kernel)) (fun _ h9 => h9) rfl (by decide +kernel) rfl rfl (Nat.le_of_ble_eq_true rfl) dX0_open_40 (fun H locs hP hD hS => ?_)
  have hP : va_P (dC, dI) rw_cl [(h0, .inr (0, [.ref ab, .int (nI h), .int (nI n), .int (nI ps)])), (ab, .inl (cI, 4096, .inl f))] H := hP
  have hD : va_D A [(h0, .inr (0, [.ref ab, .int (nI h), .int (nI n), .int (nI ps)])), (ab, .inl (cI, 4096, .inl f))] := hD
  refine lv_aload_n hx hb dX0_open_43 rfl (lv_at hl 0 rfl) ?_
  refine lv_iload_n hx hb dX0_open_44 rfl (lv_at hl 3 rfl) ?_
  refine va_put (D := (dC, dI)) (ci := 0) (v := .int (nI z)) (ty := .int) (C := RX0) (T := TX0) (N := 4) hx hb hts (by decide +kernel) tyX0 tyX0_ok nmX0 hown hK hP hD hS 0 rfl rfl 3 (by decide) (hts (.fieldLink RX0 20 "RowFilters" "pointSize" "I") (by decide +kernel)) (fun _ h9 => h9) rfl (by decide +kernel) rfl rfl (Nat.le_of_ble_eq_true rfl) dX0_open_45 (fun H locs hP hD hS => ?_)
  have hP : va_P (dC, dI) rw_cl [(h0, .inr (0, [.ref ab, .int (nI h), .int (nI n), .int (nI z)])), (ab, .inl (cI, 4096, .inl f))] H := hP
  have hD : va_D A [(h0, .inr (0, [.ref ab, .int (nI h), .int (nI n), .int (nI z)])), (ab, .inl (cI, 4096, .inl f))] := hD
  refine lv_aload_n hx hb dX0_open_48 rfl (lv_at hl 0 rfl) ?_
  refine va_get (D := (dC, dI)) (ci := 0) (v := .ref ab) (C := RX0) (T := TX0) (N := 4) hx hb hts (by decide +kernel) hown hK hP 0 rfl rfl 0 (by decide) (hts (.fieldLink RX0 9 "RowFilters" "bytes" "[I") (by decide +kernel)) (fun _ h9 => h9) rfl dX0_open_49 ?_
  refine lv_iconst (v := 0) hx hb dX0_open_52 (by decide) ?_
  have hPc := hP.sub (ws' := [(ab, .inl (cI, 4096, .inl f))]) [1] rfl
  have hDc := hD.sub (ws' := [(ab, .inl (cI, 4096, .inl f))]) [1] (by decide) rfl
  have hFc := va_free (wc := [(ab, .inl (cI, 4096, .inl f))]) hD hS hA [1] rfl
  refine va_callv (va_runS (As := [.ref ab, .int 0]) (rest := []) ⟨hx, hb, hml, hown, hts⟩ (c_J7_fill_53178 l dC dI cI ab f H.size 0) (va_cwS 2 hts gX0_open_J7_fill_53178 rfl rfl rfl (by decide +kernel) ⟨Nat.le_of_ble_eq_true rfl, Nat.le_of_ble_eq_true rfl⟩) ⟨fun a U g mk q => by obtain ⟨q0, q1, qP, qK, qD⟩ := q; exact ⟨q0, q1, qP, va_K.moved (u := U) (U := U.calling g mk a) (Vm.Alike.refl U.vm) qK, qD⟩, fun U hU hW => ⟨rfl, by rw [hU], by rw [hU]; exact hPc, va_K.moved hW.alike hK, hDc.weaken (fun _ _ _ _ => trivial)⟩⟩ rfl rfl hl.1 rfl (lv_room (Nat.le_of_ble_eq_true rfl)) dX0_open_53 ⟨Nat.zero_le _, Nat.zero_le _⟩) hS (fun q _ h => hFc q h) hFc (fun u t9 H1 locs ht hvm hw hB hz1 hk1 hS => ?_)
  obtain ⟨hP1, hK1, hD1⟩ := hB
  rw [ht] at hP1
  obtain ⟨hP, hD⟩ := va_join (wr := [(h0, .inr (0, [.ref ab, .int (nI h), .int (nI n), .int (nI z)]))]) (w1 := [(ab, .inl (cI, 4096, .inl (rf_p f (fun _ => 0) 0 4096)))]) hP hD [1] [0] rfl rfl (by decide) (by decide) hk1 hFc hP1 hD1
  generalize H1 = H at hP hS ⊢
  have hP : va_P (dC, dI) rw_cl [(h0, .inr (0, [.ref ab, .int (nI h), .int (nI n), .int (nI z)])), (ab, .inl (cI, 4096, .inl (rf_p f (fun _ => 0) 0 4096)))] H := hP
  have hD : va_D A [(h0, .inr (0, [.ref ab, .int (nI h), .int (nI n), .int (nI z)])), (ab, .inl (cI, 4096, .inl (rf_p f (fun _ => 0) 0 4096)))] := hD
  refine W.widen (k := 0) (n := 0) (Nat.le_refl _) (Nat.le_refl _) ?_
  exact W.vret hx hb hr (fun t ht hW => ⟨⟨(), rfl, trivial, by rw [ht]; exact hP, va_K.moved hW.alike hK, hD⟩, hS.F ht⟩) hS.2.2 dX0_open_56
end
section
theorem rw_newc (n : Nat) (cA : ClassId) : vp_cell cA (n, .inl (fun _ => (0 : Int32))) = arrV cA n (fun _ => defaultValue .int) := vp_cell_i cA n (fun _ => 0)
set_option maxHeartbeats 4000000 in
set_option maxRecDepth 100000 in
theorem c_X0_init (l : Launch) (dC : Nat → ClassId) (dI : Nat → Nat → Nat) (h0 sz : Nat) : Met l yX0_init wsX0_init ({ frames := 1, cells := 1, slots := 4096, locals := 12 }) (va_Pc [.ref h0] (fun U => U.heap.size = sz ∧ va_P (dC, dI) rw_cl [(h0, .inr (0, [.null, .int 0, .int 0, .int 0]))] U.heap ∧ va_K (dC, dI) rw_cl [] U ∧ va_D (fun _ => True) [(h0, .inr (0, [.null, .int 0, .int 0, .int 0]))])) (va_Qv (fun _ : Nat × ClassId => True) (fun u t9 => rw_B dC dI u.2 h0 u.1 1 1 1 (fun _ => 0) (va_A [(h0, .inr (0, [.null, .int 0, .int 0, .int 0]))] sz) t9) (va_A [(h0, .inr (0, [.null, .int 0, .int 0, .int 0]))] sz)) 1 4096 (va_A [(h0, .inr (0, [.null, .int 0, .int 0, .int 0]))] sz) := by
  refine Met.ofW (cc := cX0_init) (maxL := 1) (ret := none) (by decide) rfl ?_
  intro p e s m args below meth c s₁ B hml hv
  obtain ⟨rfl, hsz, hP, hK, hD0⟩ := hv
  have hx := B.exec
  have hb := B.bytes
  have hr := B.returns
  have hts := atoms_spec (ws := wsX0_init) B.pre
  have hown : s.vm.findClass RX0 = some m.cls := findClass_of_methodNamed B.named
  have hlocks := B.notSynchronized
  have hin : meth.name = "<init>" := (name_of_methodNamed B.named B.method).1
  subst hsz
  have hD := hD0.self (sz := s.heap.size)
  generalize hAe : va_A [(h0, .inr (0, [.null, .int 0, .int 0, .int 0]))] s.heap.size = A at hD ⊢
  have hA : ∀ q : Nat, s.heap.size ≤ q → A q := fun q h => by rw [← hAe]; exact Or.inr h
  have hS : va_S A s.heap s.heap [] := va_S.rf
  have hP : va_P (dC, dI) rw_cl [(h0, .inr (0, [.null, .int 0, .int 0, .int 0]))] s.heap := hP
  have hl := lv_entry ([.ref h0]) (n := 1) (Nat.le_of_ble_eq_true rfl)
  rw [lg_entry_eq]
  generalize (lg_sl ([.ref h0]) ++ List.replicate (1 - (lg_sl ([.ref h0])).length) Slot.unset).toArray = ls at hl ⊢
  have hl : lv_has ls 1 [(0, .ref h0)] := hl
  refine lv_aload_n hx hb dX0_init_0 rfl (lv_at hl 0 rfl) ?_
  refine W.objInit hx hb hown (hts (.methodLink RX0 1 objectInit) (by decide +kernel)) (hts (.instanceMethod objectInit) (by decide +kernel)) (hts (.code objectInit ⟨#[0xb1]⟩ 1 none) (by decide +kernel)) rfl (by rw [hml]; exact hl.1) rfl dX0_init_1 (Nat.le_of_ble_eq_true rfl) (Nat.le_of_ble_eq_true rfl) ?_
  refine W.eq (g2 := F0 m 4 ls []) rfl ?_
  refine lv_aload_n hx hb dX0_init_4 rfl (lv_at hl 0 rfl) ?_
  refine lv_sipush (v := 4096) hx hb dX0_init_5 (by decide) ?_
  refine va_newa (atype := .int) (ty := .int) (a0 := (4096, .inl (fun _ => 0))) (N' := 4096) hx hb (hts (.arrayClass .int) (by decide +kernel)) rfl hK hP hD hS hA (rw_newc 4096) (by decide +kernel) (by decide +kernel) (by decide +kernel) (show 0 + 1 ≤ 1 by decide) (show 0 + 4096 ≤ 4096 by decide) dX0_init_8 (fun ab cI H hK hP hD hS => ?_)
  have hP : va_P (dC, dI) rw_cl [(h0, .inr (0, [.null, .int 0, .int 0, .int 0])), (ab, .inl (cI, 4096, .inl (fun _ => 0)))] H := hP
  have hD : va_D A [(h0, .inr (0, [.null, .int 0, .int 0, .int 0])), (ab, .inl (cI, 4096, .inl (fun _ => 0)))] := hD
  have hK : va_K (dC, dI) rw_cl [(cI, .int)] s := hK
  refine W.widen (k := 1) (n := 4096) (show 0 + 1 ≤ 1 by decide) (show 0 + 4096 ≤ 4096 by decide) ?_
  refine va_putF (D := (dC, dI)) (ci := 0) (v := .ref ab) (ty := .array .int) (C := RX0) (T := TX0) (N := 4) hx hb hts (by decide +kernel) tyX0 tyX0_ok nmX0 hown hK hP hD hS 0 rfl rfl 0 (by decide) (hts (.fieldLink RX0 9 "RowFilters" "bytes" "[I") (by decide +kernel)) (fun _ h9 => h9) rfl hin rfl (by decide +kernel) rfl rfl (Nat.le_of_ble_eq_true rfl) dX0_init_10 (fun H locs hP hD hS => ?_)
  have hP : va_P (dC, dI) rw_cl [(h0, .inr (0, [.ref ab, .int 0, .int 0, .int 0])), (ab, .inl (cI, 4096, .inl (fun _ => 0)))] H := hP
  have hD : va_D A [(h0, .inr (0, [.ref ab, .int 0, .int 0, .int 0])), (ab, .inl (cI, 4096, .inl (fun _ => 0)))] := hD
  refine lv_aload_n hx hb dX0_init_13 rfl (lv_at hl 0 rfl) ?_
  refine lv_iconst (v := 1) hx hb dX0_init_14 (by decide) ?_
  refine va_put (D := (dC, dI)) (ci := 0) (v := .int 1) (ty := .int) (C := RX0) (T := TX0) (N := 4) hx hb hts (by decide +kernel) tyX0 tyX0_ok nmX0 hown hK hP hD hS 0 rfl rfl 1 (by decide) (hts (.fieldLink RX0 13 "RowFilters" "rowCount" "I") (by decide +kernel)) (fun _ h9 => h9) rfl (by decide +kernel) rfl rfl (Nat.le_of_ble_eq_true rfl) dX0_init_15 (fun H locs hP hD hS => ?_)
  have hP : va_P (dC, dI) rw_cl [(h0, .inr (0, [.ref ab, .int 1, .int 0, .int 0])), (ab, .inl (cI, 4096, .inl (fun _ => 0)))] H := hP
  have hD : va_D A [(h0, .inr (0, [.ref ab, .int 1, .int 0, .int 0])), (ab, .inl (cI, 4096, .inl (fun _ => 0)))] := hD
  refine lv_aload_n hx hb dX0_init_18 rfl (lv_at hl 0 rfl) ?_
  refine lv_iconst (v := 1) hx hb dX0_init_19 (by decide) ?_
  refine va_put (D := (dC, dI)) (ci := 0) (v := .int 1) (ty := .int) (C := RX0) (T := TX0) (N := 4) hx hb hts (by decide +kernel) tyX0 tyX0_ok nmX0 hown hK hP hD hS 0 rfl rfl 2 (by decide) (hts (.fieldLink RX0 17 "RowFilters" "rowLength" "I") (by decide +kernel)) (fun _ h9 => h9) rfl (by decide +kernel) rfl rfl (Nat.le_of_ble_eq_true rfl) dX0_init_20 (fun H locs hP hD hS => ?_)
  have hP : va_P (dC, dI) rw_cl [(h0, .inr (0, [.ref ab, .int 1, .int 1, .int 0])), (ab, .inl (cI, 4096, .inl (fun _ => 0)))] H := hP
  have hD : va_D A [(h0, .inr (0, [.ref ab, .int 1, .int 1, .int 0])), (ab, .inl (cI, 4096, .inl (fun _ => 0)))] := hD
  refine lv_aload_n hx hb dX0_init_23 rfl (lv_at hl 0 rfl) ?_
  refine lv_iconst (v := 1) hx hb dX0_init_24 (by decide) ?_
  refine va_put (D := (dC, dI)) (ci := 0) (v := .int 1) (ty := .int) (C := RX0) (T := TX0) (N := 4) hx hb hts (by decide +kernel) tyX0 tyX0_ok nmX0 hown hK hP hD hS 0 rfl rfl 3 (by decide) (hts (.fieldLink RX0 20 "RowFilters" "pointSize" "I") (by decide +kernel)) (fun _ h9 => h9) rfl (by decide +kernel) rfl rfl (Nat.le_of_ble_eq_true rfl) dX0_init_25 (fun H locs hP hD hS => ?_)
  have hP : va_P (dC, dI) rw_cl [(h0, .inr (0, [.ref ab, .int 1, .int 1, .int 1])), (ab, .inl (cI, 4096, .inl (fun _ => 0)))] H := hP
  have hD : va_D A [(h0, .inr (0, [.ref ab, .int 1, .int 1, .int 1])), (ab, .inl (cI, 4096, .inl (fun _ => 0)))] := hD
  exact W.vret hx hb hr (fun t ht hW => ⟨⟨(ab, cI), rfl, trivial, by rw [ht]; exact hP, va_K.moved hW.alike hK, hD⟩, hS.F ht⟩) hS.2.2 dX0_init_28
end
section
set_option maxHeartbeats 4000000 in
set_option maxRecDepth 100000 in
theorem c_Y1_init (l : Launch) (dC : Nat → ClassId) (dI : Nat → Nat → Nat) (h0 sz : Nat) : Met l yY1_init wsY1_init ({ frames := 1, cells := 2, slots := 8192, locals := 12 }) (va_Pc [.ref h0] (fun U => U.heap.size = sz ∧ va_P (dC, dI) rw_cl [(h0, .inr (1, [.int 0, .int 0, .int 0, .int 0, .null, .null]))] U.heap ∧ va_K (dC, dI) rw_cl [] U ∧ va_D (fun _ => True) [(h0, .inr (1, [.int 0, .int 0, .int 0, .int 0, .null, .null]))])) (va_Qv (fun _ : (Nat × ClassId) × (Nat × ClassId) => True) (fun u t9 => rv_B dC dI u.1.2 u.2.2 h0 u.1.1 u.2.1 0 1 1 1 (fun _ => 0) (fun _ => 0) (va_A [(h0, .inr (1, [.int 0, .int 0, .int 0, .int 0, .null, .null]))] sz) t9) (va_A [(h0, .inr (1, [.int 0, .int 0, .int 0, .int 0, .null, .null]))] sz)) 2 8192 (va_A [(h0, .inr (1, [.int 0, .int 0, .int 0, .int 0, .null, .null]))] sz) := by
  refine Met.ofW (cc := cY1_init) (maxL := 1) (ret := none) (by decide) rfl ?_
  intro p e s m args below meth c s₁ B hml hv
  obtain ⟨rfl, hsz, hP, hK, hD0⟩ := hv
  have hx := B.exec
  have hb := B.bytes
  have hr := B.returns
  have hts := atoms_spec (ws := wsY1_init) B.pre
  have hown : s.vm.findClass RX1 = some m.cls := findClass_of_methodNamed B.named
  have hlocks := B.notSynchronized
  have hin : meth.name = "<init>" := (name_of_methodNamed B.named B.method).1
  subst hsz
  have hD := hD0.self (sz := s.heap.size)
  generalize hAe : va_A [(h0, .inr (1, [.int 0, .int 0, .int 0, .int 0, .null, .null]))] s.heap.size = A at hD ⊢
  have hA : ∀ q : Nat, s.heap.size ≤ q → A q := fun q h => by rw [← hAe]; exact Or.inr h
  have hS : va_S A s.heap s.heap [] := va_S.rf
  have hP : va_P (dC, dI) rw_cl [(h0, .inr (1, [.int 0, .int 0, .int 0, .int 0, .null, .null]))] s.heap := hP
  have hl := lv_entry ([.ref h0]) (n := 1) (Nat.le_of_ble_eq_true rfl)
  rw [lg_entry_eq]
  generalize (lg_sl ([.ref h0]) ++ List.replicate (1 - (lg_sl ([.ref h0])).length) Slot.unset).toArray = ls at hl ⊢
  have hl : lv_has ls 1 [(0, .ref h0)] := hl
  refine lv_aload_n hx hb dY1_init_0 rfl (lv_at hl 0 rfl) ?_
  refine W.objInit hx hb hown (hts (.methodLink RX1 1 objectInit) (by decide +kernel)) (hts (.instanceMethod objectInit) (by decide +kernel)) (hts (.code objectInit ⟨#[0xb1]⟩ 1 none) (by decide +kernel)) rfl (by rw [hml]; exact hl.1) rfl dY1_init_1 (Nat.le_of_ble_eq_true rfl) (Nat.le_of_ble_eq_true rfl) ?_
  refine W.eq (g2 := F0 m 4 ls []) rfl ?_
  refine lv_aload_n hx hb dY1_init_4 rfl (lv_at hl 0 rfl) ?_
  refine lv_iconst (v := 1) hx hb dY1_init_5 (by decide) ?_
  refine va_put (D := (dC, dI)) (ci := 1) (v := .int 1) (ty := .int) (C := RX1) (T := TY1) (N := 6) hx hb hts (by decide +kernel) tyY1 tyY1_ok nmY1 hown hK hP hD hS 0 rfl rfl 1 (by decide) (hts (.fieldLink RX1 7 "RowFiltersModel" "height" "I") (by decide +kernel)) (fun _ h9 => h9) rfl (by decide +kernel) rfl rfl (Nat.le_of_ble_eq_true rfl) dY1_init_6 (fun H locs hP hD hS => ?_)
  have hP : va_P (dC, dI) rw_cl [(h0, .inr (1, [.int 0, .int 1, .int 0, .int 0, .null, .null]))] H := hP
  have hD : va_D A [(h0, .inr (1, [.int 0, .int 1, .int 0, .int 0, .null, .null]))] := hD
  refine lv_aload_n hx hb dY1_init_9 rfl (lv_at hl 0 rfl) ?_
  refine lv_iconst (v := 1) hx hb dY1_init_10 (by decide) ?_
  refine va_put (D := (dC, dI)) (ci := 1) (v := .int 1) (ty := .int) (C := RX1) (T := TY1) (N := 6) hx hb hts (by decide +kernel) tyY1 tyY1_ok nmY1 hown hK hP hD hS 0 rfl rfl 2 (by decide) (hts (.fieldLink RX1 13 "RowFiltersModel" "width" "I") (by decide +kernel)) (fun _ h9 => h9) rfl (by decide +kernel) rfl rfl (Nat.le_of_ble_eq_true rfl) dY1_init_11 (fun H locs hP hD hS => ?_)
  have hP : va_P (dC, dI) rw_cl [(h0, .inr (1, [.int 0, .int 1, .int 1, .int 0, .null, .null]))] H := hP
  have hD : va_D A [(h0, .inr (1, [.int 0, .int 1, .int 1, .int 0, .null, .null]))] := hD
  refine lv_aload_n hx hb dY1_init_14 rfl (lv_at hl 0 rfl) ?_
  refine lv_iconst (v := 1) hx hb dY1_init_15 (by decide) ?_
  refine va_put (D := (dC, dI)) (ci := 1) (v := .int 1) (ty := .int) (C := RX1) (T := TY1) (N := 6) hx hb hts (by decide +kernel) tyY1 tyY1_ok nmY1 hown hK hP hD hS 0 rfl rfl 3 (by decide) (hts (.fieldLink RX1 16 "RowFiltersModel" "step" "I") (by decide +kernel)) (fun _ h9 => h9) rfl (by decide +kernel) rfl rfl (Nat.le_of_ble_eq_true rfl) dY1_init_16 (fun H locs hP hD hS => ?_)
  have hP : va_P (dC, dI) rw_cl [(h0, .inr (1, [.int 0, .int 1, .int 1, .int 1, .null, .null]))] H := hP
  have hD : va_D A [(h0, .inr (1, [.int 0, .int 1, .int 1, .int 1, .null, .null]))] := hD
  refine lv_aload_n hx hb dY1_init_19 rfl (lv_at hl 0 rfl) ?_
  refine lv_sipush (v := 4096) hx hb dY1_init_20 (by decide) ?_
  refine va_newa (atype := .int) (ty := .int) (a0 := (4096, .inl (fun _ => 0))) (N' := 4096) hx hb (hts (.arrayClass .int) (by decide +kernel)) rfl hK hP hD hS hA (rw_newc 4096) (by decide +kernel) (by decide +kernel) (by decide +kernel) (show 0 + 1 ≤ 2 by decide) (show 0 + 4096 ≤ 8192 by decide) dY1_init_23 (fun b1 cI H hK hP hD hS => ?_)
  have hP : va_P (dC, dI) rw_cl [(h0, .inr (1, [.int 0, .int 1, .int 1, .int 1, .null, .null])), (b1, .inl (cI, 4096, .inl (fun _ => 0)))] H := hP
  have hD : va_D A [(h0, .inr (1, [.int 0, .int 1, .int 1, .int 1, .null, .null])), (b1, .inl (cI, 4096, .inl (fun _ => 0)))] := hD
  have hK : va_K (dC, dI) rw_cl [(cI, .int)] s := hK
  refine W.widen (k := 1) (n := 4096) (show 0 + 1 ≤ 1 by decide) (show 0 + 4096 ≤ 4096 by decide) ?_
  refine va_putF (D := (dC, dI)) (ci := 1) (v := .ref b1) (ty := .array .int) (C := RX1) (T := TY1) (N := 6) hx hb hts (by decide +kernel) tyY1 tyY1_ok nmY1 hown hK hP hD hS 0 rfl rfl 4 (by decide) (hts (.fieldLink RX1 19 "RowFiltersModel" "bytes" "[I") (by decide +kernel)) (fun _ h9 => h9) rfl hin rfl (by decide +kernel) rfl rfl (Nat.le_of_ble_eq_true rfl) dY1_init_25 (fun H locs hP hD hS => ?_)
  have hP : va_P (dC, dI) rw_cl [(h0, .inr (1, [.int 0, .int 1, .int 1, .int 1, .ref b1, .null])), (b1, .inl (cI, 4096, .inl (fun _ => 0)))] H := hP
  have hD : va_D A [(h0, .inr (1, [.int 0, .int 1, .int 1, .int 1, .ref b1, .null])), (b1, .inl (cI, 4096, .inl (fun _ => 0)))] := hD
  refine lv_aload_n hx hb dY1_init_28 rfl (lv_at hl 0 rfl) ?_
  refine lv_sipush (v := 4096) hx hb dY1_init_29 (by decide) ?_
  refine va_newa (atype := .int) (ty := .int) (a0 := (4096, .inl (fun _ => 0))) (N' := 4096) hx hb (hts (.arrayClass .int) (by decide +kernel)) rfl hK hP hD hS hA (rw_newc 4096) (by decide +kernel) (by decide +kernel) (by decide +kernel) (show 1 + 1 ≤ 2 by decide) (show 4096 + 4096 ≤ 8192 by decide) dY1_init_32 (fun b2 cJ H hK hP hD hS => ?_)
  have hP : va_P (dC, dI) rw_cl [(h0, .inr (1, [.int 0, .int 1, .int 1, .int 1, .ref b1, .null])), (b1, .inl (cI, 4096, .inl (fun _ => 0))), (b2, .inl (cJ, 4096, .inl (fun _ => 0)))] H := hP
  have hD : va_D A [(h0, .inr (1, [.int 0, .int 1, .int 1, .int 1, .ref b1, .null])), (b1, .inl (cI, 4096, .inl (fun _ => 0))), (b2, .inl (cJ, 4096, .inl (fun _ => 0)))] := hD
  have hK : va_K (dC, dI) rw_cl [(cI, .int), (cJ, .int)] s := hK
  refine W.widen (k := 2) (n := 8192) (show 1 + 1 ≤ 2 by decide) (show 4096 + 4096 ≤ 8192 by decide) ?_
  refine va_putF (D := (dC, dI)) (ci := 1) (v := .ref b2) (ty := .array .int) (C := RX1) (T := TY1) (N := 6) hx hb hts (by decide +kernel) tyY1 tyY1_ok nmY1 hown hK hP hD hS 0 rfl rfl 5 (by decide) (hts (.fieldLink RX1 23 "RowFiltersModel" "told" "[I") (by decide +kernel)) (fun _ h9 => h9) rfl hin rfl (by decide +kernel) rfl rfl (Nat.le_of_ble_eq_true rfl) dY1_init_34 (fun H locs hP hD hS => ?_)
  have hP : va_P (dC, dI) rw_cl [(h0, .inr (1, [.int 0, .int 1, .int 1, .int 1, .ref b1, .ref b2])), (b1, .inl (cI, 4096, .inl (fun _ => 0))), (b2, .inl (cJ, 4096, .inl (fun _ => 0)))] H := hP
  have hD : va_D A [(h0, .inr (1, [.int 0, .int 1, .int 1, .int 1, .ref b1, .ref b2])), (b1, .inl (cI, 4096, .inl (fun _ => 0))), (b2, .inl (cJ, 4096, .inl (fun _ => 0)))] := hD
  exact W.vret hx hb hr (fun t ht hW => ⟨⟨((b1, cI), (b2, cJ)), rfl, trivial, by rw [ht]; exact hP, va_K.moved hW.alike hK, hD⟩, hS.F ht⟩) hS.2.2 dY1_init_37
end
section
section VXA
def vx_T (XC : String → State → State → Prop) (st : State) (q : Addr) (t : State) (mc ms : Nat) (free : Addr → Prop) : Prop :=
  ∃ (E : String) (ce : Cell) (L : List Loc), XC E st t ∧ t.heap[q]? = some ce ∧ ce.vm = .none ∧ st.vm.findClass E = some ce.cls ∧ st.WarmedH t.vm ∧ st.sameButNew ({ t with vm := st.vm } : State) L mc ms ∧ ∀ z ∈ L, free z.base
def vx_Q (Qc : Array Value → State → Outcome → State → Prop) (XC : String → State → State → Prop) (mc ms : Nat) (free : Addr → Prop) : Array Value → State → Outcome → State → Prop := fun a st o t =>
  (Qc a st o t ∧ ∃ L, FrameEnd st o t L mc ms ∧ ∀ q ∈ L, free q.base) ∨ ∃ q, o = .threw q ∧ vx_T XC st q t mc ms free
def vx_Met (l : Launch) (y : MethodName) (ws : List Cond) (rm : Room) (Pc : Array Value → State → Prop) (Qc : Array Value → State → Outcome → State → Prop) (XC : String → State → State → Prop) (mc ms : Nat) (free : Addr → Prop) : Prop :=
  MetFree l y (headSpec ws rm) Pc (fun _ _ _ _ _ => True) (vx_Q Qc XC mc ms free)
def vx_Post (XC : String → State → State → Prop) (mc ms : Nat) (free : Addr → Prop) : Pt → Array Value → Addr → Pt → Prop := fun A a q B =>
  ∃ (g : JFrame) (mk : MethodId) (t : State) (L : List Loc) (E : String) (ce : Cell), B.U.heap = t.heap ∧ B.U.vm = t.vm ∧ XC E (A.U.calling g mk a) t ∧ t.heap[q]? = some ce ∧ ce.vm = .none ∧ A.U.vm.findClass E = some ce.cls ∧ B.locs = A.locs ++ L ∧ (∀ z ∈ L, free z.base) ∧ B.cells = A.cells + mc ∧ B.slots = A.slots + ms
def vx_Back (l : Launch) (R : Room) (p : Program) (e : Env) (below : List Frame) (s : State) (sargs : Array Value) (y : MethodName) (len W9 : Nat)
    (Pre : Pt → Array Value → Prop) (Post : Pt → Array Value → Option Value → Pt → Prop) (PostX : Pt → Array Value → Addr → Pt → Prop) : Prop :=
  ∀ (m : MethodId) (meth : Method) (c : Code) (A : Pt) (g : JFrame) (ig : Instr) (mk : MethodId) (a : Array Value),
    Stand p l e R s m sargs below meth c A.U A.locs A.cells A.slots → g.method = m → g.locals.size = c.maxLocals → decode c.code g.pc = .ok (ig, len) →
    2 * g.monitorRoom + (g.stack.map fun v => v.category).sum ≤ W9 → A.U.methodNamed? y = some mk → Pre A a →
    (∃ (v : Option Value) (B : Pt), Stand p l e R s m sargs below meth c B.U B.locs B.cells B.slots ∧ Post A a v B ∧
      Steps p.tables e below (doInvoke e (A.U.setTop g) [] mk a).1 (B.U.setTop { g with pc := g.pc + len, stack := v.toList ++ g.stack })) ∨
    (∃ (q : Addr) (B : Pt), Stand p l e R s m sargs below meth c B.U B.locs B.cells B.slots ∧ PostX A a q B ∧
      Steps p.tables e below (doInvoke e (A.U.setTop g) [] mk a).1 ((B.U.setTop g).pushFrame (.throwing q)))
section Payer
variable {l : Launch} {R : Room} {p : Program} {e : Env} {below : List Frame} {s : State} {sargs : Array Value} {y : MethodName} {len W9 : Nat}
theorem vx_back {ws : List Cond} {rm : Room} {Pc : Array Value → State → Prop} {Qc : Array Value → State → Outcome → State → Prop} {XC : String → State → State → Prop} {mc ms : Nat} {free : Addr → Prop} {bytes : ByteArray} {maxL : Nat} {ret : Option FieldType}
    (hM : vx_Met l y ws rm Pc Qc XC mc ms free) (hblind : FrameBlind Pc) (hrc : rm.cells = mc) (hrs : rm.slots = ms)
    (hframes : rm.frames + 1 ≤ R.frames) (hlocals : W9 + (maxL + 11) + rm.locals ≤ R.locals)
    (hws : ∀ w ∈ ws, ∀ a' U, s.WarmedH U.vm → w.before a' U = true) (hcode : Cond.code y bytes maxL ret ∈ ws) (hinit : ∀ a' U, s.WarmedH U.vm → (Cond.initialized y.cls).before a' U = true) :
    vx_Back l R p e below s sargs y len W9 (PreOf R mc ms Pc) (PostOf Qc mc ms free) (vx_Post XC mc ms free) := by
  intro m meth c A g ig mk a X hg hsize hdg hW hn hp
  have h1 : (headSpec ws rm).pre.before a A.U = true := atoms_intro fun w hw => hws w hw _ _ X.warmed
  have h2 : (Cond.code y bytes maxL ret).before a A.U = true := hws _ hcode _ _ X.warmed
  have h3 : (Cond.initialized y.cls).before a A.U = true := hinit _ _ X.warmed
  have h4 : A.cells + (headSpec ws rm).room.cells ≤ R.cells := by rw [show (headSpec ws rm).room.cells = mc from hrc]; exact hp.1
  have h5 : A.slots + (headSpec ws rm).room.slots ≤ R.slots := by rw [show (headSpec ws rm).room.slots = ms from hrs]; exact hp.2.1
  have hPc : Pc a (A.U.calling g mk a) := hblind _ _ _ _ hp.2.2
  obtain ⟨U, Ls, c0, s0⟩ := A
  dsimp only [Pt.U, Pt.locs, Pt.cells, Pt.slots] at h1 h2 h3 h4 h5 X hn hPc ⊢
  obtain ⟨methY, cY, hmY, hcY, -, hlY, -, -, -, -⟩ := Cond.code_spec hn h2
  obtain ⟨kY, hkY, -⟩ := className_of_methodNamed hn
  have hinitY : kY.init = .initialized := Cond.initialized_spec (findClass_of_methodNamed hn) hkY h3
  have h : At U g.method c below := by rw [hg]; exact X.here
  have hlocals9 : W9 + (maxL + 11) + (headSpec ws rm).room.locals ≤ R.locals := hlocals
  have happ : (headSpec ws rm).appliesLoose y e.platform (U.calling g mk a) = true :=
    Spec.appliesLoose_calling (g := g) h hdg hn hkY hinitY
      (X.room_calling (g := g) (R' := (headSpec ws rm).room) hsize hmY hcY hframes (by rw [hlY]; omega) h4 h5) h1
  obtain ⟨mid, hmid⟩ := h.above
  have hfr : (U.setTop g).frames = (.java g :: mid) ++ below := by rw [State.frames_setTop' g h.top, hmid]; rfl
  obtain ⟨o, s₂, hsteps, -, hend, hq⟩ := Steps.callFree hM p X.admits X.cas X.clock (acts := []) hfr happ hPc trivial
  have hq' : vx_Q Qc XC mc ms free a (U.calling g mk a) o s₂ := hq
  rw [State.frames_setTop' g h.top] at hend
  obtain ⟨g₀, hg0⟩ := Option.isSome_iff_exists.mp h.top
  obtain ⟨r, hr⟩ := State.topJava?_eq_some.mp hg0
  have hr' : (({ U with heap := s₂.heap, slotsUsed := s₂.slotsUsed } : State).setVm s₂.vm).frames = .java g₀ :: r := hr
  rcases hq' with ⟨hqc, L, hfe, hL⟩ | ⟨q, rfl, E, ce, L, hx, hce, hcv, hcl, hW₂, hsm, hL⟩
  · obtain ⟨⟨v, rfl⟩, hW₂, e2, q2, q3, q4, q5, q6⟩ := id hfe
    have e3 : s₂ = ({ (U.calling g mk a).setFrames s₂.frames with heap := s₂.heap, slotsUsed := s₂.slotsUsed } : State).setVm s₂.vm := by
      have : s₂ = ({ s₂ with vm := (U.calling g mk a).vm } : State).setVm s₂.vm := rfl
      rw [e2] at this
      exact this
    obtain ⟨c₂, i₂, len₂, hc₂, hd₂, hf₂⟩ := hend
    have hW' : U.WarmedH s₂.vm := hW₂
    have hcc : c₂ = c := by
      have h1 : s₂.code? g.method = U.code? g.method := by
        rw [State.code?_eq, State.code?_eq, hW'.alike.method?]
      exact Option.some.inj (hc₂.symm.trans (h1.trans h.code))
    subst hcc
    have hlen : len₂ = len := by rw [hdg] at hd₂; cases hd₂; rfl
    subst hlen
    have hs₂ : s₂ = (({ U with heap := s₂.heap, slotsUsed := s₂.slotsUsed } : State).setVm s₂.vm).setTop { g with pc := g.pc + len₂, stack := v.toList ++ g.stack } := by
      refine e3.trans ?_
      rw [hf₂, State.calling_eq h.top, State.setFrames_setFrames, State.setTop_of_frames _ hr', hr]
      rfl
    have hsame : U.sameButNew ({ U with heap := s₂.heap, slotsUsed := s₂.slotsUsed } : State) L mc ms := by
      refine ⟨?_, q2, q3, q4, q5, q6⟩
      obtain ⟨t, ht, -⟩ := State.frames_cons hr
      show ({ U with heap := s₂.heap, slotsUsed := s₂.slotsUsed } : State) = { U.setFrames U.frames with heap := s₂.heap, slotsUsed := s₂.slotsUsed }
      rw [State.setFrames_self ht]
    subst hg
    refine Or.inl ⟨v, ⟨(({ U with heap := s₂.heap, slotsUsed := s₂.slotsUsed } : State).setVm s₂.vm), Ls ++ L, c0 + mc, s0 + ms⟩,
      ⟨X.admits, X.cas, X.clock, X.frames, X.room, X.hears, X.method, X.code, (X.here.setHeapUsed s₂.heap s₂.slotsUsed).setVm hW'.alike, X.tail, State.WarmedH.trans X.warmed hW', X.limits, X.bytes, X.same.trans (hsame.setVm s.vm)⟩,
      ⟨g, mk, s₂, L, rfl, rfl, hqc, rfl, hL, rfl, rfl⟩, ?_⟩
    show Steps p.tables e below _ ((({ U with heap := s₂.heap, slotsUsed := s₂.slotsUsed } : State).setVm s₂.vm).setTop { g with pc := g.pc + len₂, stack := v.toList ++ g.stack })
    rw [← hs₂]
    exact hsteps
  · obtain ⟨e2, q2, q3, q4, q5, q6⟩ := id hsm
    have e3 : s₂ = ({ (U.calling g mk a).setFrames s₂.frames with heap := s₂.heap, slotsUsed := s₂.slotsUsed } : State).setVm s₂.vm := by
      have : s₂ = ({ s₂ with vm := (U.calling g mk a).vm } : State).setVm s₂.vm := rfl
      rw [e2] at this
      exact this
    have hf₂ : s₂.frames = .throwing q :: .java g :: U.frames.tail := hend
    have hW' : U.WarmedH s₂.vm := hW₂
    have hs₂ : s₂ = ((({ U with heap := s₂.heap, slotsUsed := s₂.slotsUsed } : State).setVm s₂.vm).setTop g).pushFrame (.throwing q) := by
      refine e3.trans ?_
      rw [hf₂, State.calling_eq h.top, State.setFrames_setFrames, State.pushFrame, State.frames_setTop _ hr', State.setTop_of_frames _ hr', State.setFrames_setFrames, hr]
      rfl
    have hsame : U.sameButNew ({ U with heap := s₂.heap, slotsUsed := s₂.slotsUsed } : State) L mc ms := by
      refine ⟨?_, q2, q3, q4, q5, q6⟩
      obtain ⟨t, ht, -⟩ := State.frames_cons hr
      show ({ U with heap := s₂.heap, slotsUsed := s₂.slotsUsed } : State) = { U.setFrames U.frames with heap := s₂.heap, slotsUsed := s₂.slotsUsed }
      rw [State.setFrames_self ht]
    subst hg
    refine Or.inr ⟨q, ⟨(({ U with heap := s₂.heap, slotsUsed := s₂.slotsUsed } : State).setVm s₂.vm), Ls ++ L, c0 + mc, s0 + ms⟩,
      ⟨X.admits, X.cas, X.clock, X.frames, X.room, X.hears, X.method, X.code, (X.here.setHeapUsed s₂.heap s₂.slotsUsed).setVm hW'.alike, X.tail, State.WarmedH.trans X.warmed hW', X.limits, X.bytes, X.same.trans (hsame.setVm s.vm)⟩,
      ⟨g, mk, s₂, L, E, ce, rfl, rfl, hx, hce, hcv, hcl, rfl, hL, rfl, rfl⟩, ?_⟩
    show Steps p.tables e below _ (((({ U with heap := s₂.heap, slotsUsed := s₂.slotsUsed } : State).setVm s₂.vm).setTop g).pushFrame (.throwing q))
    rw [← hs₂]
    exact hsteps
end Payer
section Calls
variable {p : Program} {l : Launch} {e : Env} {R : Room} {s : State} {m : MethodId} {args : Array Value} {below : List Frame} {meth : Method} {c : Code} {T : State} {locs : List Loc} {cells slots : Nat}
theorem vx_callV (X : Stand p l e R s m args below meth c T locs cells slots) (hexec : p.tables.exec = Jvm.exec) {own C : String} {index : Nat} {y : MethodName} {bytes : ByteArray} {maxL : Nat} {ret : Option FieldType}
    (hown : s.vm.findClass own = some m.cls) (hlink : (Cond.methodLink own index y).before args s = true) (hinst : (Cond.instanceMethod y).before args s = true) (hsel : (Cond.selects C y y).before args s = true)
    (hcode : (Cond.code y bytes maxL ret).before args s = true) (hy : y.cls ≠ "java/lang/invoke/MethodHandle" ∧ y.cls ≠ "java/lang/invoke/VarHandle")
    {W9 : Nat} {Pre : Pt → Array Value → Prop} {Post : Pt → Array Value → Option Value → Pt → Prop} {PostX : Pt → Array Value → Addr → Pt → Prop} (hK : vx_Back l R p e below s args y 3 W9 Pre Post PostX)
    {b : Addr} {cellB : Cell} (hcell : T.heap[b]? = some cellB) (hobj : cellB.vm.isStatics = false) (hcls : s.vm.findClass C = some cellB.cls)
    {g : JFrame} (hg : g.method = m) (hsize : g.locals.size = c.maxLocals) {argsL rest : List Value} (hlen : ∀ sig, parseMethodDescriptor y.desc = some sig → argsL.length = sig.parameters.length)
    (hstack : g.stack = argsL.reverse ++ .ref b :: rest) (hW : 2 * g.monitorRoom + (rest.map fun v => v.category).sum ≤ W9) (hdg : decode c.code g.pc = .ok (.invokevirtual index, 3))
    (hpre : ∀ vm₁, s.WarmedH vm₁ → Pre ⟨T.setVm vm₁, locs, cells, slots⟩ (Value.ref b :: argsL).toArray) :
    (∃ (v : Option Value) (vm₁ : Vm) (B : Pt), s.WarmedH vm₁ ∧ Stand p l e R s m args below meth c B.U B.locs B.cells B.slots ∧ Post ⟨T.setVm vm₁, locs, cells, slots⟩ (Value.ref b :: argsL).toArray v B ∧
      ∀ target, Steps p.tables e below (B.U.setTop { g with pc := g.pc + 3, stack := v.toList ++ rest }) target → Steps p.tables e below (T.setTop g) target) ∨
    (∃ (q : Addr) (vm₁ : Vm) (B : Pt), s.WarmedH vm₁ ∧ Stand p l e R s m args below meth c B.U B.locs B.cells B.slots ∧ PostX ⟨T.setVm vm₁, locs, cells, slots⟩ (Value.ref b :: argsL).toArray q B ∧
      Steps p.tables e below (T.setTop g) ((B.U.setTop { g with stack := rest }).pushFrame (.throwing q))) := by
  obtain ⟨mk, methM, hnamed, hmethM, hstM, habM⟩ := Cond.instanceMethod_spec hinst
  obtain ⟨methM', cM, hmethM', -, -, -, -, -, -, hsigM⟩ := Cond.code_spec hnamed hcode
  cases hmethM.symm.trans hmethM'
  obtain ⟨c2, r2, m2, q1, q2, q3, q4, kP, hkP, hkPi⟩ := Cond.selects_spec hsel
  cases hcls.symm.trans q1
  cases (State.methodFound?_of_named hnamed hy).symm.trans q2
  cases hnamed.symm.trans q3
  have hselP : selectMethod e.platform s.vm cellB.cls mk = .method mk := by rw [Launch.admits_selectMethod X.admits]; exact q4
  obtain ⟨vm₁, X₁, hstep₁⟩ := X.invokevirtual hexec hown hlink hnamed hmethM hstM hkP hkPi hy (a := b) (cell := cellB) hcell
    (fun z h => by rw [h] at hobj; cases hobj) hselP hmethM habM hkP hkPi (g := g) hg (argsL := argsL) (rest := rest) (hlen _ hsigM) hstack hdg
  rcases hK m meth c ⟨T.setVm vm₁, locs, cells, slots⟩ { g with stack := rest } (.invokevirtual index) mk (Value.ref b :: argsL).toArray X₁ hg hsize hdg hW (X₁.named hnamed) (hpre vm₁ X₁.warmed) with ⟨v, B, X', hpost, hsteps⟩ | ⟨q, B, X', hpost, hsteps⟩
  · exact Or.inl ⟨v, vm₁, B, X₁.warmed, X', hpost, fun target h => hstep₁ _ fun acts => by rw [doInvoke_state]; exact hsteps.trans h⟩
  · exact Or.inr ⟨q, vm₁, B, X₁.warmed, X', hpost, hstep₁ _ fun acts => by rw [doInvoke_state]; exact hsteps⟩
theorem vx_callS (X : Stand p l e R s m args below meth c T locs cells slots) (hexec : p.tables.exec = Jvm.exec) {own : String} {index : Nat} {y : MethodName} {bytes : ByteArray} {maxL : Nat} {ret : Option FieldType}
    (hown : s.vm.findClass own = some m.cls) (hlink : (Cond.methodLink own index y).before args s = true) (hstat : (Cond.static y).before args s = true) (hinit : (Cond.initialized y.cls).before args s = true)
    (hcode : (Cond.code y bytes maxL ret).before args s = true) (hy : y.cls ≠ "java/lang/invoke/MethodHandle" ∧ y.cls ≠ "java/lang/invoke/VarHandle")
    {W9 : Nat} {Pre : Pt → Array Value → Prop} {Post : Pt → Array Value → Option Value → Pt → Prop} {PostX : Pt → Array Value → Addr → Pt → Prop} (hK : vx_Back l R p e below s args y 3 W9 Pre Post PostX)
    {g : JFrame} (hg : g.method = m) (hsize : g.locals.size = c.maxLocals) {argsL rest : List Value} (hlen : ∀ sig, parseMethodDescriptor y.desc = some sig → argsL.length = sig.parameters.length)
    (hstack : g.stack = argsL.reverse ++ rest) (hW : 2 * g.monitorRoom + (rest.map fun v => v.category).sum ≤ W9) (hdg : decode c.code g.pc = .ok (.invokestatic index, 3))
    (hpre : ∀ vm₁, s.WarmedH vm₁ → Pre ⟨T.setVm vm₁, locs, cells, slots⟩ argsL.toArray) :
    (∃ (v : Option Value) (vm₁ : Vm) (B : Pt), s.WarmedH vm₁ ∧ Stand p l e R s m args below meth c B.U B.locs B.cells B.slots ∧ Post ⟨T.setVm vm₁, locs, cells, slots⟩ argsL.toArray v B ∧
      ∀ target, Steps p.tables e below (B.U.setTop { g with pc := g.pc + 3, stack := v.toList ++ rest }) target → Steps p.tables e below (T.setTop g) target) ∨
    (∃ (q : Addr) (vm₁ : Vm) (B : Pt), s.WarmedH vm₁ ∧ Stand p l e R s m args below meth c B.U B.locs B.cells B.slots ∧ PostX ⟨T.setVm vm₁, locs, cells, slots⟩ argsL.toArray q B ∧
      Steps p.tables e below (T.setTop g) ((B.U.setTop { g with stack := rest }).pushFrame (.throwing q))) := by
  obtain ⟨mk, hnamed⟩ := Cond.code_named hcode
  obtain ⟨methM, cM, hmethM, -, -, -, -, -, -, hsigM⟩ := Cond.code_spec hnamed hcode
  have hstatic : methM.isStatic = true := Cond.static_spec hnamed hmethM hstat
  obtain ⟨kP, hkP, -⟩ := className_of_methodNamed hnamed
  have hinitP : kP.init = .initialized := Cond.initialized_spec (findClass_of_methodNamed hnamed) hkP hinit
  obtain ⟨vm₁, X₁, hstep₁⟩ := X.invokestatic hexec hown hlink hnamed hmethM hstatic hkP hinitP hy (g := g) hg (argsL := argsL) (rest := rest) (hlen _ hsigM) hstack hdg
  rcases hK m meth c ⟨T.setVm vm₁, locs, cells, slots⟩ { g with stack := rest } (.invokestatic index) mk argsL.toArray X₁ hg hsize hdg hW (X₁.named hnamed) (hpre vm₁ X₁.warmed) with ⟨v, B, X', hpost, hsteps⟩ | ⟨q, B, X', hpost, hsteps⟩
  · exact Or.inl ⟨v, vm₁, B, X₁.warmed, X', hpost, fun target h => hstep₁ _ fun acts => by rw [doInvoke_state]; exact hsteps.trans h⟩
  · exact Or.inr ⟨q, vm₁, B, X₁.warmed, X', hpost, hstep₁ _ fun acts => by rw [doInvoke_state]; exact hsteps⟩
end Calls
theorem vx_cls {s : State} {T : State} {vm₁ : Vm} {E : String} {k : ClassId} (hW : s.WarmedH vm₁) (h : (T.setVm vm₁).vm.findClass E = some k) : s.vm.findClass E = some k := by
  have h1 : vm₁.findClass E = some k := h
  rw [hW.alike.findClass] at h1
  exact h1
def vx_W (p : Program) (l : Launch) (e : Env) (R : Room) (s : State) (m : MethodId) (args : Array Value) (below : List Frame) (meth : Method) (c : Code) (H : Heap) (locs : List Loc) (cells slots : Nat) (Q : State → Prop) (g : JFrame) (q : Addr) : Prop :=
  ∀ T : State, T.heap = H → Stand p l e R s m args below meth c T locs cells slots → ∃ t, Steps p.tables e below ((T.setTop g).pushFrame (.throwing q)) t ∧ Q t
def vx_Run (p : Program) (l : Launch) (e : Env) (R : Room) (s : State) (m : MethodId) (args : Array Value) (below : List Frame) (meth : Method) (c : Code) (H : Heap) (locs : List Loc) (cells slots mc ms : Nat) (g : JFrame) (rest : List Value) (Qa : State → Outcome → State → Prop) (XC : String → State → State → Prop) (free : Addr → Prop) : Prop :=
  ∀ T : State, T.heap = H → Stand p l e R s m args below meth c T locs cells slots →
    (∃ (v : Option Value) (st₀ t T' : State) (L : List Loc), st₀.heap = H ∧ Stand p l e R s m args below meth c T' (locs ++ L) (cells + mc) (slots + ms) ∧ (∀ q ∈ L, free q.base) ∧ T'.heap = t.heap ∧ T'.vm = t.vm ∧ Qa st₀ (.returned v) t ∧
      Goes p e below T g T' { g with pc := g.pc + 3, stack := v.toList ++ rest }) ∨
    (∃ (q : Addr) (st₀ t T' : State) (L : List Loc) (E : String) (ce : Cell), st₀.heap = H ∧ Stand p l e R s m args below meth c T' (locs ++ L) (cells + mc) (slots + ms) ∧ (∀ z ∈ L, free z.base) ∧ T'.heap = t.heap ∧ T'.vm = t.vm ∧ XC E st₀ t ∧ t.heap[q]? = some ce ∧ ce.vm = .none ∧ s.vm.findClass E = some ce.cls ∧
      Steps p.tables e below (T.setTop g) ((T'.setTop { g with stack := rest }).pushFrame (.throwing q)))
def vx_X {S : Type} (px : S → Prop) (B : String → S → State → Prop) (A : Nat → Prop) : String → State → State → Prop := fun E st t => ∃ u : S, px u ∧ B E u t ∧ va_F A st t
section Runs
variable {p : Program} {l : Launch} {e : Env} {R : Room} {s : State} {m : MethodId} {args : Array Value} {below : List Frame} {meth : Method} {c : Code} {H : Heap} {locs : List Loc} {cells slots : Nat}
variable {y : MethodName} {bytes cc : ByteArray} {maxL nL mc ms n index : Nat} {ret : Option FieldType} {ws : List Cond} {rm : Room} {Pc : Array Value → State → Prop} {Qc : Array Value → State → Outcome → State → Prop} {XC : String → State → State → Prop} {free : Addr → Prop} {Ts : List Cond} {own C : String} {b : Addr} {As rest : List Value} {g : JFrame}
theorem vx_callBack (cb : CallB R s args own index y bytes maxL ret ws rm mc ms n) (hM : vx_Met l y ws rm Pc Qc XC mc ms free) (hbl : FrameBlind Pc) : vx_Back l R p e below s args y 3 8 (PreOf R mc ms Pc) (PostOf Qc mc ms free) (vx_Post XC mc ms free) := by
  obtain ⟨hrc, hrs, hfr, hlo, hws, hcw, -, hini, -⟩ := cb
  exact vx_back (bytes := bytes) (maxL := maxL) (ret := ret) hM hbl hrc hrs hfr hlo hws hcw (fun a' U hW => word_at hW (Or.inl (by first | rfl | simp [Cond.onTables, Cond.keeps, Cond.steady])) hini)
theorem vx_runV (S : CallFix p m c cc nL s args Ts own) (hM : vx_Met l y ws rm Pc Qc XC mc ms free) (cw : CallW R s args own C index y bytes maxL ret ws rm mc ms n) (hp : PreV s H C b Pc As)
    (hg : g.method = m) (hn : As.length = n) (hsize : g.locals.size = nL) (hstack : g.stack = As.reverse ++ .ref b :: rest) (hW : 2 * g.monitorRoom + (rest.map fun v => v.category).sum ≤ 8) (hdg : decode cc g.pc = .ok (.invokevirtual index, 3)) (hf : cells + mc ≤ R.cells ∧ slots + ms ≤ R.slots) :
    vx_Run p l e R s m args below meth c H locs cells slots mc ms g rest (Qc (Value.ref b :: As).toArray) XC free := by
  have hK : vx_Back l R p e below s args y 3 8 (PreOf R mc ms Pc) (PostOf Qc mc ms free) (vx_Post XC mc ms free) := vx_callBack cw.1 hM hp.1
  obtain ⟨⟨-, -, -, -, -, -, hcode, -, hy, hlen, hl⟩, hin, hse⟩ := cw
  obtain ⟨hx, hb, hml, ho, -⟩ := S
  obtain ⟨-, ⟨cellB, hcB, hoB, hclB⟩, hPc⟩ := hp
  intro T hT X
  rcases vx_callV X hx (C := C) (bytes := bytes) (maxL := maxL) (ret := ret) ho hl hin hse hcode hy hK (by rw [hT]; exact hcB) hoB hclB hg (hsize.trans hml.symm) (argsL := As) (rest := rest) (fun sig h => hn.trans (hlen sig h)) hstack hW (by rw [hb]; exact hdg)
    (fun vm₁ hW₁ => ⟨hf.1, hf.2, hPc (T.setVm vm₁) hT hW₁⟩) with ⟨v, vm₁, ⟨U', l2, c2, s2⟩, hW₁, X', ⟨g', mk, t, L, e1, e2, hq, h1, hL, h2, h3⟩, st⟩ | ⟨q, vm₁, ⟨U', l2, c2, s2⟩, hW₁, X', ⟨g', mk, t, L, E, ce, e1, e2, hq, hce, hcv, hcl, h1, hL, h2, h3⟩, st⟩
  · dsimp only [Pt.U, Pt.locs, Pt.cells, Pt.slots] at X' e1 e2 h1 h2 h3 st
    subst h1; subst h2; subst h3
    exact Or.inl ⟨v, (T.setVm vm₁).calling g' mk (Value.ref b :: As).toArray, t, U', L, hT, X', hL, e1, e2, hq, st⟩
  · dsimp only [Pt.U, Pt.locs, Pt.cells, Pt.slots] at X' e1 e2 h1 h2 h3 st hcl
    subst h1; subst h2; subst h3
    exact Or.inr ⟨q, (T.setVm vm₁).calling g' mk (Value.ref b :: As).toArray, t, U', L, E, ce, hT, X', hL, e1, e2, hq, hce, hcv, vx_cls hW₁ hcl, st⟩
theorem vx_runS (S : CallFix p m c cc nL s args Ts own) (hM : vx_Met l y ws rm Pc Qc XC mc ms free) (cw : CallB R s args own index y bytes maxL ret ws rm mc ms n ∧ (Cond.static y).before args s = true) (hp : PreS s H Pc As)
    (hg : g.method = m) (hn : As.length = n) (hsize : g.locals.size = nL) (hstack : g.stack = As.reverse ++ rest) (hW : 2 * g.monitorRoom + (rest.map fun v => v.category).sum ≤ 8) (hdg : decode cc g.pc = .ok (.invokestatic index, 3)) (hf : cells + mc ≤ R.cells ∧ slots + ms ≤ R.slots) :
    vx_Run p l e R s m args below meth c H locs cells slots mc ms g rest (Qc As.toArray) XC free := by
  have hK : vx_Back l R p e below s args y 3 8 (PreOf R mc ms Pc) (PostOf Qc mc ms free) (vx_Post XC mc ms free) := vx_callBack cw.1 hM hp.1
  obtain ⟨⟨-, -, -, -, -, -, hcode, hini, hy, hlen, hl⟩, hstt⟩ := cw
  obtain ⟨hx, hb, hml, ho, -⟩ := S
  intro T hT X
  rcases vx_callS X hx (bytes := bytes) (maxL := maxL) (ret := ret) ho hl hstt hini hcode hy hK hg (hsize.trans hml.symm) (argsL := As) (rest := rest) (fun sig h => hn.trans (hlen sig h)) hstack hW (by rw [hb]; exact hdg)
    (fun vm₁ hW₁ => ⟨hf.1, hf.2, hp.2 (T.setVm vm₁) hT hW₁⟩) with ⟨v, vm₁, ⟨U', l2, c2, s2⟩, hW₁, X', ⟨g', mk, t, L, e1, e2, hq, h1, hL, h2, h3⟩, st⟩ | ⟨q, vm₁, ⟨U', l2, c2, s2⟩, hW₁, X', ⟨g', mk, t, L, E, ce, e1, e2, hq, hce, hcv, hcl, h1, hL, h2, h3⟩, st⟩
  · dsimp only [Pt.U, Pt.locs, Pt.cells, Pt.slots] at X' e1 e2 h1 h2 h3 st
    subst h1; subst h2; subst h3
    exact Or.inl ⟨v, (T.setVm vm₁).calling g' mk As.toArray, t, U', L, hT, X', hL, e1, e2, hq, st⟩
  · dsimp only [Pt.U, Pt.locs, Pt.cells, Pt.slots] at X' e1 e2 h1 h2 h3 st hcl
    subst h1; subst h2; subst h3
    exact Or.inr ⟨q, (T.setVm vm₁).calling g' mk As.toArray, t, U', L, E, ce, hT, X', hL, e1, e2, hq, hce, hcv, vx_cls hW₁ hcl, st⟩
end Runs
section Rows
variable {p : Program} {l : Launch} {e : Env} {R : Room} {s : State} {m : MethodId} {args : Array Value} {below : List Frame} {meth : Method} {c : Code} {H : Heap} {locs : List Loc} {cells slots : Nat} {Q : State → Prop}
variable {mc ms : Nat} {free : Addr → Prop} {A0 A1 : Nat → Prop} {H0 : Heap} {a : Array Value} {pc : Nat} {ls : Array Slot} {st0 rest : List Value}
theorem vx_keep {st₀ t T' : State} {L : List Loc} (h0 : st₀.heap = H) (e1 : T'.heap = t.heap) (hS : va_S A0 H0 H locs) (hA : ∀ q, q < H.size → A1 q → A0 q) (hf : ∀ q, free q → A0 q) (hL : ∀ q ∈ L, free q.base) (hF : va_F A1 st₀ t) :
    H.size ≤ T'.heap.size ∧ (∀ q : Nat, q < H.size → ¬ A1 q → T'.heap[q]? = H[q]?) ∧ va_S A0 H0 T'.heap (locs ++ L) := by
  obtain ⟨hz, hk⟩ := hF
  rw [h0] at hz hk
  exact ⟨by rw [e1]; exact hz, fun q h1 h2 => by rw [e1]; exact hk q h1 h2,
    ⟨Nat.le_trans hS.1 (by rw [e1]; exact hz), fun q h1 h2 => by rw [e1, hk q (Nat.lt_of_lt_of_le h1 hS.1) (fun z => h2 (hA q (Nat.lt_of_lt_of_le h1 hS.1) z))]; exact hS.2.1 q h1 h2, fun q hq => by
      rcases List.mem_append.mp hq with h | h
      · exact hS.2.2 q h
      · exact hf _ (hL q h)⟩⟩
theorem vx_calli {S SX : Type} {post : Int32 → S → Prop} {px : SX → Prop} {B : S → State → Prop} {BX : String → SX → State → Prop} {AX : Nat → Prop} (hr : vx_Run p l e R s m args below meth c H locs cells slots mc ms (F0 m pc ls st0) rest (va_Qi post B A1 a) (vx_X px BX AX) free) (hS : va_S A0 H0 H locs) (hA : ∀ q, q < H.size → A1 q → A0 q) (hf : ∀ q, free q → A0 q) (hAX : ∀ q, q < H.size → AX q → A0 q)
    (kx : ∀ (E : String) (ce : Cell) (q9 : Addr) (u : SX) (t : State) (H1 : Heap) (locs1 : List Loc), t.heap = H1 → s.vm.Alike t.vm → px u → BX E u t → H.size ≤ H1.size → (∀ q : Nat, q < H.size → ¬ AX q → H1[q]? = H[q]?) → va_S A0 H0 H1 locs1 → H1[q9]? = some ce → ce.vm = .none → s.vm.findClass E = some ce.cls → vx_W p l e R s m args below meth c H1 locs1 (cells + mc) (slots + ms) Q (F0 m pc ls rest) q9)
    (kk : ∀ (r : Int32) (u : S) (t : State) (H1 : Heap) (locs1 : List Loc), t.heap = H1 → s.vm.Alike t.vm → post r u → B u t → H.size ≤ H1.size → (∀ q : Nat, q < H.size → ¬ A1 q → H1[q]? = H[q]?) → va_S A0 H0 H1 locs1 → W p l e R s m args below meth c H1 locs1 (cells + mc) (slots + ms) Q (F0 m (pc + 3) ls (.int r :: rest))) : W p l e R s m args below meth c H locs cells slots Q (F0 m pc ls st0) := by
  intro T hT X
  rcases hr T hT X with ⟨v, st₀, t, T', L, h0, X', hL, e1, e2, ⟨⟨r, u, hv, hp, hb⟩, hF⟩, st⟩ | ⟨q, st₀, t, T', L, E, ce, h0, X', hL, e1, e2, ⟨u, hp, hb, hF⟩, hce, hcv, hcl, st⟩
  · cases hv
    obtain ⟨k1, k2, k3⟩ := vx_keep h0 e1 hS hA hf hL hF
    obtain ⟨t2, a1, b1⟩ := kk r u t T'.heap (locs ++ L) e1.symm (by rw [← e2]; exact X'.warmed.alike) hp hb k1 k2 k3 T' rfl X'
    exact ⟨t2, st t2 a1, b1⟩
  · obtain ⟨k1, k2, k3⟩ := vx_keep h0 e1 hS hAX hf hL hF
    obtain ⟨t2, a1, b1⟩ := kx E ce q u t T'.heap (locs ++ L) e1.symm (by rw [← e2]; exact X'.warmed.alike) hp hb k1 k2 k3 (by rw [e1]; exact hce) hcv hcl T' rfl X'
    exact ⟨t2, st.trans a1, b1⟩
theorem vx_calll {S SX : Type} {post : Int64 → S → Prop} {px : SX → Prop} {B : S → State → Prop} {BX : String → SX → State → Prop} {AX : Nat → Prop} (hr : vx_Run p l e R s m args below meth c H locs cells slots mc ms (F0 m pc ls st0) rest (va_Ql post B A1 a) (vx_X px BX AX) free) (hS : va_S A0 H0 H locs) (hA : ∀ q, q < H.size → A1 q → A0 q) (hf : ∀ q, free q → A0 q) (hAX : ∀ q, q < H.size → AX q → A0 q)
    (kx : ∀ (E : String) (ce : Cell) (q9 : Addr) (u : SX) (t : State) (H1 : Heap) (locs1 : List Loc), t.heap = H1 → s.vm.Alike t.vm → px u → BX E u t → H.size ≤ H1.size → (∀ q : Nat, q < H.size → ¬ AX q → H1[q]? = H[q]?) → va_S A0 H0 H1 locs1 → H1[q9]? = some ce → ce.vm = .none → s.vm.findClass E = some ce.cls → vx_W p l e R s m args below meth c H1 locs1 (cells + mc) (slots + ms) Q (F0 m pc ls rest) q9)
    (kk : ∀ (r : Int64) (u : S) (t : State) (H1 : Heap) (locs1 : List Loc), t.heap = H1 → s.vm.Alike t.vm → post r u → B u t → H.size ≤ H1.size → (∀ q : Nat, q < H.size → ¬ A1 q → H1[q]? = H[q]?) → va_S A0 H0 H1 locs1 → W p l e R s m args below meth c H1 locs1 (cells + mc) (slots + ms) Q (F0 m (pc + 3) ls (.long r :: rest))) : W p l e R s m args below meth c H locs cells slots Q (F0 m pc ls st0) := by
  intro T hT X
  rcases hr T hT X with ⟨v, st₀, t, T', L, h0, X', hL, e1, e2, ⟨⟨r, u, hv, hp, hb⟩, hF⟩, st⟩ | ⟨q, st₀, t, T', L, E, ce, h0, X', hL, e1, e2, ⟨u, hp, hb, hF⟩, hce, hcv, hcl, st⟩
  · cases hv
    obtain ⟨k1, k2, k3⟩ := vx_keep h0 e1 hS hA hf hL hF
    obtain ⟨t2, a1, b1⟩ := kk r u t T'.heap (locs ++ L) e1.symm (by rw [← e2]; exact X'.warmed.alike) hp hb k1 k2 k3 T' rfl X'
    exact ⟨t2, st t2 a1, b1⟩
  · obtain ⟨k1, k2, k3⟩ := vx_keep h0 e1 hS hAX hf hL hF
    obtain ⟨t2, a1, b1⟩ := kx E ce q u t T'.heap (locs ++ L) e1.symm (by rw [← e2]; exact X'.warmed.alike) hp hb k1 k2 k3 (by rw [e1]; exact hce) hcv hcl T' rfl X'
    exact ⟨t2, st.trans a1, b1⟩
theorem vx_callf {S SX : Type} {post : UInt32 → S → Prop} {px : SX → Prop} {B : S → State → Prop} {BX : String → SX → State → Prop} {AX : Nat → Prop} (hr : vx_Run p l e R s m args below meth c H locs cells slots mc ms (F0 m pc ls st0) rest (va_Qf post B A1 a) (vx_X px BX AX) free) (hS : va_S A0 H0 H locs) (hA : ∀ q, q < H.size → A1 q → A0 q) (hf : ∀ q, free q → A0 q) (hAX : ∀ q, q < H.size → AX q → A0 q)
    (kx : ∀ (E : String) (ce : Cell) (q9 : Addr) (u : SX) (t : State) (H1 : Heap) (locs1 : List Loc), t.heap = H1 → s.vm.Alike t.vm → px u → BX E u t → H.size ≤ H1.size → (∀ q : Nat, q < H.size → ¬ AX q → H1[q]? = H[q]?) → va_S A0 H0 H1 locs1 → H1[q9]? = some ce → ce.vm = .none → s.vm.findClass E = some ce.cls → vx_W p l e R s m args below meth c H1 locs1 (cells + mc) (slots + ms) Q (F0 m pc ls rest) q9)
    (kk : ∀ (r : UInt32) (u : S) (t : State) (H1 : Heap) (locs1 : List Loc), t.heap = H1 → s.vm.Alike t.vm → post r u → B u t → H.size ≤ H1.size → (∀ q : Nat, q < H.size → ¬ A1 q → H1[q]? = H[q]?) → va_S A0 H0 H1 locs1 → W p l e R s m args below meth c H1 locs1 (cells + mc) (slots + ms) Q (F0 m (pc + 3) ls (.float r :: rest))) : W p l e R s m args below meth c H locs cells slots Q (F0 m pc ls st0) := by
  intro T hT X
  rcases hr T hT X with ⟨v, st₀, t, T', L, h0, X', hL, e1, e2, ⟨⟨r, u, hv, hp, hb⟩, hF⟩, st⟩ | ⟨q, st₀, t, T', L, E, ce, h0, X', hL, e1, e2, ⟨u, hp, hb, hF⟩, hce, hcv, hcl, st⟩
  · cases hv
    obtain ⟨k1, k2, k3⟩ := vx_keep h0 e1 hS hA hf hL hF
    obtain ⟨t2, a1, b1⟩ := kk r u t T'.heap (locs ++ L) e1.symm (by rw [← e2]; exact X'.warmed.alike) hp hb k1 k2 k3 T' rfl X'
    exact ⟨t2, st t2 a1, b1⟩
  · obtain ⟨k1, k2, k3⟩ := vx_keep h0 e1 hS hAX hf hL hF
    obtain ⟨t2, a1, b1⟩ := kx E ce q u t T'.heap (locs ++ L) e1.symm (by rw [← e2]; exact X'.warmed.alike) hp hb k1 k2 k3 (by rw [e1]; exact hce) hcv hcl T' rfl X'
    exact ⟨t2, st.trans a1, b1⟩
theorem vx_calld {S SX : Type} {post : UInt64 → S → Prop} {px : SX → Prop} {B : S → State → Prop} {BX : String → SX → State → Prop} {AX : Nat → Prop} (hr : vx_Run p l e R s m args below meth c H locs cells slots mc ms (F0 m pc ls st0) rest (va_Qd post B A1 a) (vx_X px BX AX) free) (hS : va_S A0 H0 H locs) (hA : ∀ q, q < H.size → A1 q → A0 q) (hf : ∀ q, free q → A0 q) (hAX : ∀ q, q < H.size → AX q → A0 q)
    (kx : ∀ (E : String) (ce : Cell) (q9 : Addr) (u : SX) (t : State) (H1 : Heap) (locs1 : List Loc), t.heap = H1 → s.vm.Alike t.vm → px u → BX E u t → H.size ≤ H1.size → (∀ q : Nat, q < H.size → ¬ AX q → H1[q]? = H[q]?) → va_S A0 H0 H1 locs1 → H1[q9]? = some ce → ce.vm = .none → s.vm.findClass E = some ce.cls → vx_W p l e R s m args below meth c H1 locs1 (cells + mc) (slots + ms) Q (F0 m pc ls rest) q9)
    (kk : ∀ (r : UInt64) (u : S) (t : State) (H1 : Heap) (locs1 : List Loc), t.heap = H1 → s.vm.Alike t.vm → post r u → B u t → H.size ≤ H1.size → (∀ q : Nat, q < H.size → ¬ A1 q → H1[q]? = H[q]?) → va_S A0 H0 H1 locs1 → W p l e R s m args below meth c H1 locs1 (cells + mc) (slots + ms) Q (F0 m (pc + 3) ls (.double r :: rest))) : W p l e R s m args below meth c H locs cells slots Q (F0 m pc ls st0) := by
  intro T hT X
  rcases hr T hT X with ⟨v, st₀, t, T', L, h0, X', hL, e1, e2, ⟨⟨r, u, hv, hp, hb⟩, hF⟩, st⟩ | ⟨q, st₀, t, T', L, E, ce, h0, X', hL, e1, e2, ⟨u, hp, hb, hF⟩, hce, hcv, hcl, st⟩
  · cases hv
    obtain ⟨k1, k2, k3⟩ := vx_keep h0 e1 hS hA hf hL hF
    obtain ⟨t2, a1, b1⟩ := kk r u t T'.heap (locs ++ L) e1.symm (by rw [← e2]; exact X'.warmed.alike) hp hb k1 k2 k3 T' rfl X'
    exact ⟨t2, st t2 a1, b1⟩
  · obtain ⟨k1, k2, k3⟩ := vx_keep h0 e1 hS hAX hf hL hF
    obtain ⟨t2, a1, b1⟩ := kx E ce q u t T'.heap (locs ++ L) e1.symm (by rw [← e2]; exact X'.warmed.alike) hp hb k1 k2 k3 (by rw [e1]; exact hce) hcv hcl T' rfl X'
    exact ⟨t2, st.trans a1, b1⟩
theorem vx_callv {S SX : Type} {post : S → Prop} {px : SX → Prop} {B : S → State → Prop} {BX : String → SX → State → Prop} {AX : Nat → Prop} (hr : vx_Run p l e R s m args below meth c H locs cells slots mc ms (F0 m pc ls st0) rest (va_Qv post B A1 a) (vx_X px BX AX) free) (hS : va_S A0 H0 H locs) (hA : ∀ q, q < H.size → A1 q → A0 q) (hf : ∀ q, free q → A0 q) (hAX : ∀ q, q < H.size → AX q → A0 q)
    (kx : ∀ (E : String) (ce : Cell) (q9 : Addr) (u : SX) (t : State) (H1 : Heap) (locs1 : List Loc), t.heap = H1 → s.vm.Alike t.vm → px u → BX E u t → H.size ≤ H1.size → (∀ q : Nat, q < H.size → ¬ AX q → H1[q]? = H[q]?) → va_S A0 H0 H1 locs1 → H1[q9]? = some ce → ce.vm = .none → s.vm.findClass E = some ce.cls → vx_W p l e R s m args below meth c H1 locs1 (cells + mc) (slots + ms) Q (F0 m pc ls rest) q9)
    (kk : ∀ (u : S) (t : State) (H1 : Heap) (locs1 : List Loc), t.heap = H1 → s.vm.Alike t.vm → post u → B u t → H.size ≤ H1.size → (∀ q : Nat, q < H.size → ¬ A1 q → H1[q]? = H[q]?) → va_S A0 H0 H1 locs1 → W p l e R s m args below meth c H1 locs1 (cells + mc) (slots + ms) Q (F0 m (pc + 3) ls (rest))) : W p l e R s m args below meth c H locs cells slots Q (F0 m pc ls st0) := by
  intro T hT X
  rcases hr T hT X with ⟨v, st₀, t, T', L, h0, X', hL, e1, e2, ⟨⟨u, hv, hp, hb⟩, hF⟩, st⟩ | ⟨q, st₀, t, T', L, E, ce, h0, X', hL, e1, e2, ⟨u, hp, hb, hF⟩, hce, hcv, hcl, st⟩
  · cases hv
    obtain ⟨k1, k2, k3⟩ := vx_keep h0 e1 hS hA hf hL hF
    obtain ⟨t2, a1, b1⟩ := kk u t T'.heap (locs ++ L) e1.symm (by rw [← e2]; exact X'.warmed.alike) hp hb k1 k2 k3 T' rfl X'
    exact ⟨t2, st t2 a1, b1⟩
  · obtain ⟨k1, k2, k3⟩ := vx_keep h0 e1 hS hAX hf hL hF
    obtain ⟨t2, a1, b1⟩ := kx E ce q u t T'.heap (locs ++ L) e1.symm (by rw [← e2]; exact X'.warmed.alike) hp hb k1 k2 k3 (by rw [e1]; exact hce) hcv hcl T' rfl X'
    exact ⟨t2, st.trans a1, b1⟩
theorem vx_catch {own name : String} {E : String} {ce : Cell} {q : Addr} (hown : s.vm.findClass own = some m.cls) (pre : List ExceptionTableEntry) (x : ExceptionTableEntry) (suf : List ExceptionTableEntry) (hsplit : c.exceptionTable.toList = pre ++ x :: suf)
    (hpass : ∀ z ∈ pre, covers z pc = false ∨ (z.catchType ≠ 0 ∧ ∃ nm : String, (Cond.classLink own z.catchType nm).before args s = true ∧ va_Nc E nm s)) (hx : covers x pc = true) (h0 : x.catchType ≠ 0)
    (hlink : (Cond.classLink own x.catchType name).before args s = true) (hcast : (Cond.castable E name).before args s = true) (hcell : H[q]? = some ce) (hv : ce.vm = .none) (hcl : s.vm.findClass E = some ce.cls)
    (kk : W p l e R s m args below meth c H locs cells slots Q (F0 m x.handlerPc ls [.ref q])) : vx_W p l e R s m args below meth c H locs cells slots Q (F0 m pc ls rest) q := by
  intro T hT X
  have hpl : e.platform.magicAccessors = ({} : Platform).magicAccessors := by rw [X.admits.platform]
  obtain ⟨c3, c4, hc3, hc4, hasg⟩ := Cond.castable_spec hcast
  cases Option.some.inj (hc3.symm.trans hcl)
  obtain ⟨c5, hc5, hcl5⟩ := Cond.classLink_spec hown hlink e.platform hpl
  cases Option.some.inj (hc4.symm.trans hc5)
  obtain ⟨vm', X', st⟩ := X.thenCaughtThrough q (g := F0 m pc ls rest) rfl (Steps.refl _) (by rw [hT]; exact hcell) (by rw [hv]; rfl) (by obtain ⟨k9, h9, -⟩ := Vm.findClass_spec hcl; exact ⟨k9, h9⟩) pre x suf hsplit
    (fun z hz => by
      rcases hpass z hz with h | ⟨hz0, nm, hl1, hn1⟩
      · exact Or.inl h
      · obtain ⟨c6, hc6, hcl6⟩ := Cond.classLink_spec hown hl1 e.platform hpl
        obtain ⟨a8, b8, h1, h2, h3⟩ := hn1
        cases Option.some.inj (h1.symm.trans hcl)
        cases Option.some.inj (h2.symm.trans hc6)
        exact Or.inr ⟨hz0, _, hcl6, h3⟩) hx (Or.inr ⟨h0, c4, hcl5, hasg⟩)
  obtain ⟨t, a1, b1⟩ := kk (T.setVm vm') hT X'
  exact ⟨t, st.trans a1, b1⟩
end Rows
section Ends
variable {p : Program} {l : Launch} {e : Env} {R : Room} {s : State} {m : MethodId} {args : Array Value} {below : List Frame} {meth : Method} {c : Code} {H : Heap} {locs : List Loc} {cells slots : Nat} {Q : State → Prop}
variable {mc ms : Nat} {free : Addr → Prop} {A0 A1 : Nat → Prop} {H0 : Heap} {a : Array Value} {ls : Array Slot} {st0 rest : List Value}
variable {Qc : Array Value → State → Outcome → State → Prop} {XC : String → State → State → Prop}
def vx_MQ (below : List Frame) (Qc : Array Value → State → Outcome → State → Prop) (XC : String → State → State → Prop) (a : Array Value) (s : State) (mc ms : Nat) (free : Addr → Prop) : State → Prop := fun t =>
  ∃ o, t.status = .running ∧ Ended t below o ∧ vx_Q Qc XC mc ms free a s o t
theorem vx_ret {g : JFrame} {mc ms : Nat} (k : W p l e R s m args below meth c H locs cells slots (MQ below Qc args s mc ms free) g) : W p l e R s m args below meth c H locs cells slots (vx_MQ below Qc XC args s mc ms free) g := by
  intro T hT X
  obtain ⟨t, a1, o, b1, b2, b3, b4⟩ := k T hT X
  exact ⟨t, a1, o, b1, b2, Or.inl ⟨b3, b4⟩⟩
theorem vx_widen {g : JFrame} {q : Addr} {k n : Nat} (h1 : cells ≤ k) (h2 : slots ≤ n) (kk : vx_W p l e R s m args below meth c H locs k n Q g q) : vx_W p l e R s m args below meth c H locs cells slots Q g q := fun T hT X => kk T hT (stand_widen X h1 h2)
theorem vx_out {pc : Nat} {E : String} {ce : Cell} {q : Addr} {mc ms : Nat} (hout : ∀ x ∈ c.exceptionTable.toList, covers x pc = false) (hlocks : meth.locks = false) (hcell : H[q]? = some ce) (hv : ce.vm = .none) (hcl : s.vm.findClass E = some ce.cls)
    (hx : ∀ t : State, t.heap = H → s.vm.Alike t.vm → XC E s t) (hf : ∀ z ∈ locs, free z.base) (hc : cells ≤ mc) (hs : slots ≤ ms) :
    vx_W p l e R s m args below meth c H locs cells slots (vx_MQ below Qc XC args s mc ms free) (F0 m pc ls rest) q := by
  intro T hT X
  obtain ⟨st1, hrun, hend, hW, hsm⟩ := X.leaveThrown q (g := F0 m pc ls rest) rfl rfl rfl hout hlocks
  have hcell9 : (T.setFrames (.throwing q :: below)).heap[q]? = some ce := by
    show T.heap[q]? = some ce
    rw [hT]; exact hcell
  exact ⟨_, st1, .threw q, hrun, hend, Or.inr ⟨q, rfl, E, ce, locs, hx _ hT hW.alike, hcell9, hv, hcl, hW, hsm.mono hc hs, hf⟩⟩
theorem vx_frame {U : State} {k n : Nat} (h : s.sameButNew ({ U with vm := s.vm } : State) locs k n) : s.heap.size ≤ U.heap.size ∧ ∀ q : Nat, q < s.heap.size → (∀ z ∈ locs, z.base ≠ q) → U.heap[q]? = s.heap[q]? := by
  obtain ⟨-, h2, -, -, -, h6⟩ := h
  refine ⟨h2, fun q hq hz => ?_⟩
  obtain ⟨c9, e1, e2, e3, e4⟩ := h6 q _ (Array.getElem?_eq_getElem hq)
  have hs : c9.slots = (s.heap[q]).slots := Array.ext_getElem? fun i => e4 i fun hm => hz _ hm rfl
  have h9 : c9 = s.heap[q] := by
    rw [hs] at e2
    exact e2
  have e5 : U.heap[q]? = some c9 := e1
  rw [e5, h9, Array.getElem?_eq_getElem hq]
def vx_ot (w : Cond) : Bool := w.onTables || goodWord w
theorem vx_ot_at {args a' : Array Value} {s U : State} {w : Cond} (hW : s.WarmedH U.vm) (hvm : s.vm = U.vm) (hg : vx_ot w = true) (h : w.before args s = true) : w.before a' U = true := by
  simp only [vx_ot, Bool.or_eq_true] at hg
  rcases hg with hg | hg
  · exact va_tabs hg hvm h
  · exact word_at hW (good_of_word hg) h
theorem vx_hat {args : Array Value} {s : State} {L B : List Cond} (h1 : ∀ w ∈ L.filter goodWord, w.before args s = true) (h2 : ∀ w ∈ L.filter (fun w => !goodWord w), w ∈ B) (h3 : ∀ w ∈ B, w.before args s = true) : ∀ w ∈ L, w.before args s = true := by
  intro w hw
  by_cases g : goodWord w = true
  · exact h1 w (List.mem_filter.mpr ⟨hw, g⟩)
  · refine h3 w (h2 w (List.mem_filter.mpr ⟨hw, ?_⟩))
    show (!goodWord w) = true
    cases hgw : goodWord w
    · rfl
    · exact absurd hgw g
theorem vx_c {args : Array Value} {s : State} {w : Cond} {B : List Cond} (h : w.before args s = true) (t : ∀ w ∈ B, w.before args s = true) : ∀ w' ∈ w :: B, w'.before args s = true := fun w' h' => (List.mem_cons.mp h').elim (fun e => by rw [e]; exact h) (t w')
theorem vx_n {args : Array Value} {s : State} : ∀ w ∈ ([] : List Cond), w.before args s = true := fun _ h => nomatch h
theorem vx_own {args : Array Value} {s : State} {L : List Cond} (h1 : ∀ w ∈ L.filter vx_no, w.before args s = true)
    (hU : (Cond.isRef (.static Bundle.tN "UNASSIGNED_STACK" Bundle.steD)).before args s = true) (hN : (Cond.isRef (.static Bundle.tN "SUPPRESSED_SENTINEL" Bundle.listD)).before args s = true)
    (lU : (Cond.laysStatic Bundle.tN "UNASSIGNED_STACK" Bundle.steD).before args s = true) (lN : (Cond.laysStatic Bundle.tN "SUPPRESSED_SENTINEL" Bundle.listD).before args s = true) : ∀ w ∈ L, w.before args s = true := by
  intro w hw
  by_cases e1 : w = .isRef (.static Bundle.tN "UNASSIGNED_STACK" Bundle.steD)
  · rw [e1]; exact hU
  · by_cases e2 : w = .isRef (.static Bundle.tN "SUPPRESSED_SENTINEL" Bundle.listD)
    · rw [e2]; exact hN
    · by_cases e3 : w = .laysStatic Bundle.tN "UNASSIGNED_STACK" Bundle.steD
      · rw [e3]; exact lU
      · by_cases e4 : w = .laysStatic Bundle.tN "SUPPRESSED_SENTINEL" Bundle.listD
        · rw [e4]; exact lN
        · exact h1 w (List.mem_filter.mpr ⟨hw, by unfold vx_no; rw [decide_eq_true e1, decide_eq_true e2, decide_eq_true e3, decide_eq_true e4]; rfl⟩)
def vx_L (C n d : String) (A : Nat → Prop) (U : State) (H : Heap) : Prop := ∃ (c : ClassId) (k : Class) (i : Nat) (f : Field) (a : Nat) (cell : Cell), U.vm.findClass C = some c ∧ U.fieldFound? C n d = some (c, k, i, f) ∧ f.isStatic = true ∧ k.statics = some a ∧ H[a]? = some cell ∧ cell.vm.isStatics = true ∧ cell.cls = c ∧ f.slot < cell.slots.size ∧ k.staticTypes[f.slot]? = some f.type ∧ ¬ A a
theorem vx_L.moved {C n d : String} {A : Nat → Prop} {u U : State} {H : Heap} (hvm : u.vm.Alike U.vm) (h : vx_L C n d A u H) : vx_L C n d A U H := by
  obtain ⟨c, k, i, f, a, cell, h1, h2, h3, h4, h5, h6, h7, h8, h9, h10⟩ := h
  obtain ⟨k', hi', he⟩ := State.fieldFound?_setVm hvm h2
  exact ⟨c, k', i, f, a, cell, by rw [hvm.findClass]; exact h1, hi', h3, by rw [he]; exact h4, h5, h6, h7, h8, by rw [he]; exact h9, h10⟩
theorem vx_L.kept {C n d : String} {A : Nat → Prop} {U : State} {H H1 : Heap} (h : vx_L C n d A U H) (hq : ∀ a : Nat, a < H.size → ¬ A a → H1[a]? = H[a]?) : vx_L C n d A U H1 := by
  obtain ⟨c, k, i, f, a, cell, h1, h2, h3, h4, h5, h6, h7, h8, h9, h10⟩ := h
  exact ⟨c, k, i, f, a, cell, h1, h2, h3, h4, by rw [hq a (Array.getElem?_eq_some_iff.mp h5).1 h10]; exact h5, h6, h7, h8, h9, h10⟩
theorem vx_L.narrow {C n d : String} {A B : Nat → Prop} {U : State} {H : Heap} (h : vx_L C n d A U H) (hAB : ∀ q, B q → A q) : vx_L C n d B U H := by
  obtain ⟨c, k, i, f, a, cell, h1, h2, h3, h4, h5, h6, h7, h8, h9, h10⟩ := h
  exact ⟨c, k, i, f, a, cell, h1, h2, h3, h4, h5, h6, h7, h8, h9, fun z => h10 (hAB _ z)⟩
theorem vx_L.word {C n d : String} {A : Nat → Prop} {s : State} {args : Array Value} (h : vx_L C n d A s s.heap) : (Cond.laysStatic C n d).before args s = true := by
  obtain ⟨c, k, i, f, a, cell, h1, h2, h3, h4, h5, h6, h7, h8, h9, -⟩ := h
  show (Cond.laysStatic C n d).holds args s none s [] = true
  exact Cond.laysStatic_of h1 h2 h3 h4 h5 h6 h7 h8 h9
def vx_Zq (C n d : String) (A : Nat → Prop) (U : State) (H : Heap) : Prop := va_Zq C n d A U H ∧ vx_L C n d A U H
theorem vx_Zq.moved {C n d : String} {A : Nat → Prop} {u U : State} {H : Heap} (hvm : u.vm.Alike U.vm) (h : vx_Zq C n d A u H) : vx_Zq C n d A U H := ⟨va_Zq.moved hvm h.1, vx_L.moved hvm h.2⟩
theorem vx_Zq.kept {C n d : String} {A : Nat → Prop} {U : State} {H H1 : Heap} (h : vx_Zq C n d A U H) (hq : ∀ a : Nat, a < H.size → ¬ A a → H1[a]? = H[a]?) : vx_Zq C n d A U H1 := ⟨va_Zq.kept h.1 hq, vx_L.kept h.2 hq⟩
theorem vx_Zq.narrow {C n d : String} {A B : Nat → Prop} {U : State} {H : Heap} (h : vx_Zq C n d A U H) (hAB : ∀ q, B q → A q) : vx_Zq C n d B U H := ⟨va_Zq.narrow h.1 hAB, vx_L.narrow h.2 hAB⟩
theorem vx_Zqof {args : Array Value} {s : State} {C n d : String} {A : Nat → Prop} (hl : (Cond.laysStatic C n d).before args s = true) (hini : (Cond.initialized C).before args s = true) (h : (Cond.isRef (.static C n d)).before args s = true) (hA : ∀ a : Nat, a < s.heap.size → ¬ A a) : vx_Zq C n d A s s.heap := by
  refine ⟨va_Zqof hl hini h hA, ?_⟩
  obtain ⟨c, k, i, f, a, cell, h1, h2, h3, h4, h5, h6, h7, h8, h9⟩ := Cond.laysStatic_spec hl
  exact ⟨c, k, i, f, a, cell, h1, h2, h3, h4, h5, h6, h7, h8, h9, hA a (Array.getElem?_eq_some_iff.mp h5).1⟩
theorem vx_isRef {C n d : String} {v : Value} {A : Nat → Prop} {s : State} {args : Array Value} (h : va_Z C n d v A s s.heap) (hv : v.isRef = true) : (Cond.isRef (.static C n d)).before args s = true := by
  obtain ⟨cf, kf, fi, f, a, cell, h1, h2, h3, h4, h5, h6, h7, -⟩ := h
  have he : (Term.static C n d).eval args s none [] s = some v := by
    simp [Term.eval, State.fieldNamed?, h1, h2, h4, h5, h6, h7]
  simp only [Cond.before, Cond.holds, Cond.value, he]
  cases v <;> simp_all [Value.isRef]
theorem vx_isRefq {C n d : String} {A : Nat → Prop} {s : State} {args : Array Value} (h : va_Zq C n d A s s.heap) : (Cond.isRef (.static C n d)).before args s = true := by
  rcases h with h | ⟨t, h⟩
  · exact vx_isRef h rfl
  · exact vx_isRef h rfl
theorem vx_rebase {T : State} (X : Stand p l e R s m args below meth c T locs cells slots) {R' : Room} (hf : R'.frames ≤ R.frames) (hl : R'.locals ≤ R.locals) (hc : cells + R'.cells ≤ R.cells) (hs : slots + R'.slots ≤ R.slots) :
    Stand p l e R' ((T.setVm s.vm).setFrames (.invoking m args :: below)) m args below meth c T [] 0 0 := by
  have htop : (T.setVm s.vm).topJava?.isSome := X.here.top
  have hF : ((T.setVm s.vm).setFrames (.invoking m args :: below)).frames = .invoking m args :: below := State.frames_setFrames _ (State.cur_lt_of_top htop)
  obtain ⟨g₀, hg0⟩ := Option.isSome_iff_exists.mp htop
  obtain ⟨r, hr⟩ := State.topJava?_eq_some.mp hg0
  have hl9 : e.platform.stackLimits (T.setVm s.vm).me = e.platform.stackLimits s.me := X.limits
  have hb9 : (T.setVm s.vm).me.stackBytes = s.me.stackBytes := X.bytes
  refine ⟨X.admits, X.cas, X.clock, hF, ?_, X.hears, X.method, X.code, X.here, X.tail, X.warmed, ?_, ?_, ?_⟩
  · have h := X.room
    have hU : ((T.setVm s.vm).setFrames (.invoking m args :: below)).localsInUse = s.localsInUse := by
      rw [State.localsInUse_invoking hF (meth := meth) (c := c) X.method X.code, State.localsInUse_invoking X.frames X.method X.code]
    simp only [State.hasRoom, Bool.and_eq_true, decide_eq_true_eq] at h ⊢
    obtain ⟨⟨⟨⟨h1, h2, h3, h4, h5, h6⟩, h7⟩, h8⟩, h9⟩ := h
    rw [X.frames, List.length_cons] at h2 h3
    have q1 := X.heapSize
    have q2 := X.used
    simp only [hF, hU, List.length_cons, State.stackLimits_setFrames, State.stackBytes_setFrames, hl9, hb9]
    refine ⟨⟨⟨⟨by omega, by omega, by omega, by omega, by omega, h6⟩, ?_⟩, ?_⟩, X.book⟩
    · show T.heap.size + R'.cells ≤ e.platform.maxCells
      omega
    · show T.slotsUsed + R'.slots ≤ e.platform.maxSlots
      omega
  · rw [State.stackLimits_setFrames]; rfl
  · rw [State.stackBytes_setFrames]; rfl
  · refine ⟨?_, Nat.le_refl _, Nat.le_refl _, ?_, ?_, fun a c9 h9 => ⟨c9, h9, rfl, rfl, fun _ _ => rfl⟩⟩
    · obtain ⟨t, ht, -⟩ := State.frames_cons hr
      show T.setVm s.vm = { ((T.setVm s.vm).setFrames (.invoking m args :: below)).setFrames (T.setVm s.vm).frames with heap := T.heap, slotsUsed := T.slotsUsed }
      rw [State.setFrames_setFrames, State.setFrames_self ht]
      rfl
    · show T.slotsUsed = T.slotsUsed + ((T.heap.toList.drop T.heap.size).map (·.slots.size)).sum
      rw [List.drop_eq_nil_of_le (Nat.le_of_eq Array.length_toList)]
      rfl
    · show ((T.heap.toList.drop T.heap.size).map (·.slots.size)).sum ≤ 0
      rw [List.drop_eq_nil_of_le (Nat.le_of_eq Array.length_toList)]
      exact Nat.le_refl _
theorem vx_throw0 {cc : ByteArray} {pc : Nat} (hexec : p.tables.exec = Jvm.exec) (hb : c.code = cc) (hl : l.stackTraces = false) {own cls : String} {names : List String} {ik ic mc ms : Nat} {A : Nat → Prop}
    (hown : s.vm.findClass own = some m.cls) (hcls : Bundle.fit cls = true) (hnames : ∀ n ∈ names, Bundle.fit n = true)
    (hk : (Cond.classLink own ik cls).before args s = true) (hini : (Cond.initialized cls).before args s = true) (hat : ∀ w ∈ vx_at0 own ic cls names, w.before args s = true)
    (hgood : ∀ w ∈ Cond.classLink own ik cls :: Cond.initialized cls :: vx_at0 own ic cls names, vx_ot w = true)
    (hU : vx_Zq Bundle.tN "UNASSIGNED_STACK" Bundle.steD A s s.heap) (hN : vx_Zq Bundle.tN "SUPPRESSED_SENTINEL" Bundle.listD A s s.heap) (hS : va_S A s.heap H locs) (hsize : ls.size = c.maxLocals)
    (d0 : decode cc pc = .ok (.new ik, 3)) (d3 : decode cc (pc + 3) = .ok (.dup, 1)) (d4 : decode cc (pc + 4) = .ok (.invokespecial ic, 3)) (d7 : decode cc (pc + 7) = .ok (.athrow, 1))
    (hout : ∀ x ∈ c.exceptionTable.toList, covers x (pc + 7) = false)
    (hRframes : names.length + 3 < R.frames) (hRlocals : (rest.map fun v => v.category).sum + (13 * (names.length + 1) + 42) ≤ R.locals) (hRcells : cells + 1 ≤ R.cells) (hRslots : slots + 6 ≤ R.slots) (hlocks : meth.locks = false)
    (hx : ∀ t : State, s.vm.Alike t.vm → H.size ≤ t.heap.size → (∀ q : Nat, q < H.size → t.heap[q]? = H[q]?) → XC cls s t)
    (hf : ∀ z ∈ locs, free z.base) (hc : cells + 1 ≤ mc) (hs : slots + 6 ≤ ms) :
    W p l e R s m args below meth c H locs cells slots (vx_MQ below Qc XC args s mc ms free) (F0 m pc ls rest) := by
  intro T hT X
  have htr : e.platform.stackTraces = false := (show e.platform.stackTraces = l.stackTraces by rw [X.admits.platform]).trans hl
  have Y := vx_rebase X (R' := { frames := R.frames, locals := R.locals, cells := 1, slots := 6 }) (Nat.le_refl _) (Nat.le_refl _) hRcells hRslots
  obtain ⟨s', hA⟩ : ∃ z, z = (T.setVm s.vm).setFrames (.invoking m args :: below) := ⟨_, rfl⟩
  rw [← hA] at Y
  have hvm : s'.vm = s.vm := by rw [hA]; rfl
  have hhp : s'.heap = H := by rw [hA]; exact hT
  have hW0 : s.WarmedH s'.vm := by rw [hvm]; exact State.WarmedH.refl s
  have hat' : ∀ w ∈ vx_at0 own ic cls names, w.before args s' = true := fun w hw => vx_ot_at hW0 hvm.symm (hgood w (List.mem_cons_of_mem _ (List.mem_cons_of_mem _ hw))) (hat w hw)
  have hk' : (Cond.classLink own ik cls).before args s' = true := vx_ot_at hW0 hvm.symm (hgood _ List.mem_cons_self) hk
  have hini' : (Cond.initialized cls).before args s' = true := vx_ot_at hW0 hvm.symm (hgood _ (List.mem_cons_of_mem _ List.mem_cons_self)) hini
  have hU' : vx_Zq Bundle.tN "UNASSIGNED_STACK" Bundle.steD A s' s'.heap := by rw [hhp]; exact vx_Zq.moved hW0.alike (hU.kept hS.2.1)
  have hN' : vx_Zq Bundle.tN "SUPPRESSED_SENTINEL" Bundle.listD A s' s'.heap := by rw [hhp]; exact vx_Zq.moved hW0.alike (hN.kept hS.2.1)
  have h : ∀ w ∈ Bundle.ownAtoms0 own ic cls names, w.before args s' = true := vx_own hat' (vx_isRefq hU'.1) (vx_isRefq hN'.1) hU'.2.word hN'.2.word
  have hown' : s'.vm.findClass own = some m.cls := by rw [hvm]; exact hown
  have hins : (Cond.instantiable cls 6).before args s' = true := h _ (by simp [Bundle.ownAtoms0])
  obtain ⟨vm₁, cX, kX, hfX, hkX, -, -, X₁, st1⟩ := Y.newCold hexec (own := own) (C := cls) (index := ik) (n := 6) hown' hk' hins hini'
    (g := F0 m pc ls rest) rfl (by rw [hb]; exact d0) (Nat.le_refl _) (Nat.le_refl _)
  generalize hT1 : (T.setVm vm₁).pushCell { cls := cX, slots := kX.instanceTypes.map defaultValue, vm := .none } = T1 at X₁ st1
  have hcat : (Value.ref T.heap.size).category = 1 := rfl
  have hcellA : T1.heap[T.heap.size]? = some (freshCell cX kX) := by rw [← hT1]; exact State.heap_pushCell_size _ _
  have d3' : decode c.code (pc + 3) = .ok (.dup, 1) := by rw [hb]; exact d3
  obtain ⟨U, hsteps, hrun, hend, hW, hsame, ce, hce, hO⟩ := X₁.ctorThrow0 hexec htr (own := own) (cls := cls) (names := names) (ic := ic) hown' hcls hnames h (fun x hx => nomatch hx) hfX hkX hcellA (by rw [hhp, hT]; exact Nat.le_refl _)
    (g := { method := m, pc := pc + 4, locals := ls, stack := .ref T.heap.size :: .ref T.heap.size :: rest, locked := none }) rfl hsize rfl rfl (rest := rest) rfl
    (by rw [hb]; exact d4) (by rw [hb]; exact d7) hout hRframes (by simp only [List.map_cons, List.sum_cons, hcat]; omega) hlocks
  obtain ⟨f1, f2⟩ := vx_frame hsame
  rw [hhp] at f1 f2
  have hWs : s.WarmedH U.vm := State.WarmedH.trans hW0 hW
  have hcl : s.vm.findClass cls = some ce.cls := by
    have h9 := hO.cls
    rw [hvm] at h9
    exact h9
  have hall : s.sameButNew ({ U with vm := s.vm } : State) locs mc ms := by
    subst hA
    obtain ⟨e1, e2⟩ := hsame
    rw [State.setFrames_setFrames] at e1
    have h2 : (T.setVm s.vm).sameButNew ({ U with vm := s.vm } : State) [] (0 + 1) (0 + 6) := ⟨e1, e2⟩
    have h3 := X.same.trans h2
    rw [List.append_nil] at h3
    exact h3.mono hc hs
  refine ⟨U, ?_, .threw T.heap.size, hrun, hend, Or.inr ⟨T.heap.size, rfl, cls, ce, locs, hx U hWs.alike f1 (fun q hq => f2 q hq (fun z hz => nomatch hz)), hce, hO.vm, hcl, hWs, hall, hf⟩⟩
  refine st1 _ ?_
  show Steps p.tables e below (T1.setTop { method := m, pc := pc + 3, locals := ls, stack := .ref T.heap.size :: rest, locked := none }) _
  jvm_step X₁.here [X₁.here.top, hexec, d3', Value.category]
  exact hsteps
theorem vx_throwS {cc : ByteArray} {pc : Nat} (hexec : p.tables.exec = Jvm.exec) (hb : c.code = cc) (hl : l.stackTraces = false) {own cls text : String} {names : List String} {ik is ic mc ms sa : Nat} {A : Nat → Prop}
    (hown : s.vm.findClass own = some m.cls) (hcls : Bundle.fit cls = true) (hnames : ∀ n ∈ names, Bundle.fit n = true)
    (hk : (Cond.classLink own ik cls).before args s = true) (hini : (Cond.initialized cls).before args s = true) (hstr : vk_R own is text sa s) (hat : ∀ w ∈ vx_atS own ic cls names, w.before args s = true)
    (hgood : ∀ w ∈ Cond.classLink own ik cls :: Cond.initialized cls :: vx_atS own ic cls names, vx_ot w = true)
    (hU : vx_Zq Bundle.tN "UNASSIGNED_STACK" Bundle.steD A s s.heap) (hN : vx_Zq Bundle.tN "SUPPRESSED_SENTINEL" Bundle.listD A s s.heap) (hS : va_S A s.heap H locs) (hsize : ls.size = c.maxLocals)
    (d0 : decode cc pc = .ok (.new ik, 3)) (d3 : decode cc (pc + 3) = .ok (.dup, 1)) (d4 : decode cc (pc + 4) = .ok (.ldc is, 2)) (d6 : decode cc (pc + 6) = .ok (.invokespecial ic, 3)) (d9 : decode cc (pc + 9) = .ok (.athrow, 1))
    (hout : ∀ x ∈ c.exceptionTable.toList, covers x (pc + 9) = false)
    (hRframes : names.length + 3 < R.frames) (hRlocals : (rest.map fun v => v.category).sum + (13 * (names.length + 1) + 43) ≤ R.locals) (hRcells : cells + 1 ≤ R.cells) (hRslots : slots + 6 ≤ R.slots) (hlocks : meth.locks = false)
    (hx : ∀ t : State, s.vm.Alike t.vm → H.size ≤ t.heap.size → (∀ q : Nat, q < H.size → t.heap[q]? = H[q]?) → XC cls s t)
    (hf : ∀ z ∈ locs, free z.base) (hc : cells + 1 ≤ mc) (hs : slots + 6 ≤ ms) :
    W p l e R s m args below meth c H locs cells slots (vx_MQ below Qc XC args s mc ms free) (F0 m pc ls rest) := by
  intro T hT X
  have htr : e.platform.stackTraces = false := (show e.platform.stackTraces = l.stackTraces by rw [X.admits.platform]).trans hl
  have Y := vx_rebase X (R' := { frames := R.frames, locals := R.locals, cells := 1, slots := 6 }) (Nat.le_refl _) (Nat.le_refl _) hRcells hRslots
  obtain ⟨s', hA⟩ : ∃ z, z = (T.setVm s.vm).setFrames (.invoking m args :: below) := ⟨_, rfl⟩
  rw [← hA] at Y
  have hvm : s'.vm = s.vm := by rw [hA]; rfl
  have hhp : s'.heap = H := by rw [hA]; exact hT
  have hW0 : s.WarmedH s'.vm := by rw [hvm]; exact State.WarmedH.refl s
  have hat' : ∀ w ∈ vx_atS own ic cls names, w.before args s' = true := fun w hw => vx_ot_at hW0 hvm.symm (hgood w (List.mem_cons_of_mem _ (List.mem_cons_of_mem _ hw))) (hat w hw)
  have hk' : (Cond.classLink own ik cls).before args s' = true := vx_ot_at hW0 hvm.symm (hgood _ List.mem_cons_self) hk
  have hini' : (Cond.initialized cls).before args s' = true := vx_ot_at hW0 hvm.symm (hgood _ (List.mem_cons_of_mem _ List.mem_cons_self)) hini
  have hU' : vx_Zq Bundle.tN "UNASSIGNED_STACK" Bundle.steD A s' s'.heap := by rw [hhp]; exact vx_Zq.moved hW0.alike (hU.kept hS.2.1)
  have hN' : vx_Zq Bundle.tN "SUPPRESSED_SENTINEL" Bundle.listD A s' s'.heap := by rw [hhp]; exact vx_Zq.moved hW0.alike (hN.kept hS.2.1)
  have h : ∀ w ∈ Bundle.ownAtoms own ic cls names, w.before args s' = true := vx_own hat' (vx_isRefq hU'.1) (vx_isRefq hN'.1) hU'.2.word hN'.2.word
  have hown' : s'.vm.findClass own = some m.cls := by rw [hvm]; exact hown
  have hins : (Cond.instantiable cls 6).before args s' = true := h _ (by simp [Bundle.ownAtoms])
  obtain ⟨vm₁, cX, kX, hfX, hkX, -, -, X₁, st1⟩ := Y.newCold hexec (own := own) (C := cls) (index := ik) (n := 6) hown' hk' hins hini'
    (g := F0 m pc ls rest) rfl (by rw [hb]; exact d0) (Nat.le_refl _) (Nat.le_refl _)
  generalize hT1 : (T.setVm vm₁).pushCell { cls := cX, slots := kX.instanceTypes.map defaultValue, vm := .none } = T1 at X₁ st1
  have hcat : (Value.ref T.heap.size).category = 1 := rfl
  have hcellA : T1.heap[T.heap.size]? = some (freshCell cX kX) := by rw [← hT1]; exact State.heap_pushCell_size _ _
  have d3' : decode c.code (pc + 3) = .ok (.dup, 1) := by rw [hb]; exact d3
  have d4' : decode c.code (pc + 4) = .ok (.ldc is, 2) := by rw [hb]; exact d4
  have hstr' : vk_R own is text sa s' := vk_R.warm hW0 hstr
  obtain ⟨U, hsteps, hrun, hend, hW, hsame, ce, hce, hO⟩ := X₁.ctorThrowS hexec htr (own := own) (cls := cls) (names := names) (ic := ic) hown' hcls hnames h (fun x hx => nomatch hx) hfX hkX hcellA (by rw [hhp, hT]; exact Nat.le_refl _) (msg := .ref sa) rfl
    (g := { method := m, pc := pc + 6, locals := ls, stack := .ref sa :: .ref T.heap.size :: .ref T.heap.size :: rest, locked := none }) rfl hsize rfl rfl (rest := rest) rfl
    (by rw [hb]; exact d6) (by rw [hb]; exact d9) hout hRframes (by simp only [List.map_cons, List.sum_cons, hcat]; omega) hlocks
  obtain ⟨f1, f2⟩ := vx_frame hsame
  rw [hhp] at f1 f2
  have hWs : s.WarmedH U.vm := State.WarmedH.trans hW0 hW
  have hcl : s.vm.findClass cls = some ce.cls := by
    have h9 := hO.cls
    rw [hvm] at h9
    exact h9
  have hall : s.sameButNew ({ U with vm := s.vm } : State) locs mc ms := by
    subst hA
    obtain ⟨e1, e2⟩ := hsame
    rw [State.setFrames_setFrames] at e1
    have h2 : (T.setVm s.vm).sameButNew ({ U with vm := s.vm } : State) [] (0 + 1) (0 + 6) := ⟨e1, e2⟩
    have h3 := X.same.trans h2
    rw [List.append_nil] at h3
    exact h3.mono hc hs
  refine ⟨U, ?_, .threw T.heap.size, hrun, hend, Or.inr ⟨T.heap.size, rfl, cls, ce, locs, hx U hWs.alike f1 (fun q hq => f2 q hq (fun z hz => nomatch hz)), hce, hO.vm, hcl, hWs, hall, hf⟩⟩
  refine st1 _ ?_
  show Steps p.tables e below (T1.setTop { method := m, pc := pc + 3, locals := ls, stack := .ref T.heap.size :: rest, locked := none }) _
  jvm_step X₁.here [X₁.here.top, hexec, d3', Value.category]
  exact X₁.ldcString hexec (own := own) (text := text) (index := is) (a := sa) hown' hstr'.1 hstr'.2
    (g := { method := m, pc := pc + 4, locals := ls, stack := .ref T.heap.size :: .ref T.heap.size :: rest, locked := none }) rfl d4' _ hsteps
theorem vx_throwSW {cc : ByteArray} {pc : Nat} (hexec : p.tables.exec = Jvm.exec) (hb : c.code = cc) (hl : l.stackTraces = false) {own cls text : String} {names : List String} {ik is ic mc ms sa : Nat} {A : Nat → Prop}
    (hown : s.vm.findClass own = some m.cls) (hcls : Bundle.fit cls = true) (hnames : ∀ n ∈ names, Bundle.fit n = true)
    (hk : (Cond.classLink own ik cls).before args s = true) (hini : (Cond.initialized cls).before args s = true) (hstr : vk_R own is text sa s) (hat : ∀ w ∈ vx_atS own ic cls names, w.before args s = true)
    (hgood : ∀ w ∈ Cond.classLink own ik cls :: Cond.initialized cls :: vx_atS own ic cls names, vx_ot w = true)
    (hU : vx_Zq Bundle.tN "UNASSIGNED_STACK" Bundle.steD A s s.heap) (hN : vx_Zq Bundle.tN "SUPPRESSED_SENTINEL" Bundle.listD A s s.heap) (hS : va_S A s.heap H locs) (hsize : ls.size = c.maxLocals)
    (d0 : decode cc pc = .ok (.new ik, 3)) (d3 : decode cc (pc + 3) = .ok (.dup, 1)) (d4 : decode cc (pc + 4) = .ok (.ldc_w is, 3)) (d7 : decode cc (pc + 7) = .ok (.invokespecial ic, 3)) (d10 : decode cc (pc + 10) = .ok (.athrow, 1))
    (hout : ∀ x ∈ c.exceptionTable.toList, covers x (pc + 10) = false)
    (hRframes : names.length + 3 < R.frames) (hRlocals : (rest.map fun v => v.category).sum + (13 * (names.length + 1) + 43) ≤ R.locals) (hRcells : cells + 1 ≤ R.cells) (hRslots : slots + 6 ≤ R.slots) (hlocks : meth.locks = false)
    (hx : ∀ t : State, s.vm.Alike t.vm → H.size ≤ t.heap.size → (∀ q : Nat, q < H.size → t.heap[q]? = H[q]?) → XC cls s t)
    (hf : ∀ z ∈ locs, free z.base) (hc : cells + 1 ≤ mc) (hs : slots + 6 ≤ ms) :
    W p l e R s m args below meth c H locs cells slots (vx_MQ below Qc XC args s mc ms free) (F0 m pc ls rest) := by
  intro T hT X
  have htr : e.platform.stackTraces = false := (show e.platform.stackTraces = l.stackTraces by rw [X.admits.platform]).trans hl
  have Y := vx_rebase X (R' := { frames := R.frames, locals := R.locals, cells := 1, slots := 6 }) (Nat.le_refl _) (Nat.le_refl _) hRcells hRslots
  obtain ⟨s', hA⟩ : ∃ z, z = (T.setVm s.vm).setFrames (.invoking m args :: below) := ⟨_, rfl⟩
  rw [← hA] at Y
  have hvm : s'.vm = s.vm := by rw [hA]; rfl
  have hhp : s'.heap = H := by rw [hA]; exact hT
  have hW0 : s.WarmedH s'.vm := by rw [hvm]; exact State.WarmedH.refl s
  have hat' : ∀ w ∈ vx_atS own ic cls names, w.before args s' = true := fun w hw => vx_ot_at hW0 hvm.symm (hgood w (List.mem_cons_of_mem _ (List.mem_cons_of_mem _ hw))) (hat w hw)
  have hk' : (Cond.classLink own ik cls).before args s' = true := vx_ot_at hW0 hvm.symm (hgood _ List.mem_cons_self) hk
  have hini' : (Cond.initialized cls).before args s' = true := vx_ot_at hW0 hvm.symm (hgood _ (List.mem_cons_of_mem _ List.mem_cons_self)) hini
  have hU' : vx_Zq Bundle.tN "UNASSIGNED_STACK" Bundle.steD A s' s'.heap := by rw [hhp]; exact vx_Zq.moved hW0.alike (hU.kept hS.2.1)
  have hN' : vx_Zq Bundle.tN "SUPPRESSED_SENTINEL" Bundle.listD A s' s'.heap := by rw [hhp]; exact vx_Zq.moved hW0.alike (hN.kept hS.2.1)
  have h : ∀ w ∈ Bundle.ownAtoms own ic cls names, w.before args s' = true := vx_own hat' (vx_isRefq hU'.1) (vx_isRefq hN'.1) hU'.2.word hN'.2.word
  have hown' : s'.vm.findClass own = some m.cls := by rw [hvm]; exact hown
  have hins : (Cond.instantiable cls 6).before args s' = true := h _ (by simp [Bundle.ownAtoms])
  obtain ⟨vm₁, cX, kX, hfX, hkX, -, -, X₁, st1⟩ := Y.newCold hexec (own := own) (C := cls) (index := ik) (n := 6) hown' hk' hins hini'
    (g := F0 m pc ls rest) rfl (by rw [hb]; exact d0) (Nat.le_refl _) (Nat.le_refl _)
  generalize hT1 : (T.setVm vm₁).pushCell { cls := cX, slots := kX.instanceTypes.map defaultValue, vm := .none } = T1 at X₁ st1
  have hcat : (Value.ref T.heap.size).category = 1 := rfl
  have hcellA : T1.heap[T.heap.size]? = some (freshCell cX kX) := by rw [← hT1]; exact State.heap_pushCell_size _ _
  have d3' : decode c.code (pc + 3) = .ok (.dup, 1) := by rw [hb]; exact d3
  have d4' : decode c.code (pc + 4) = .ok (.ldc_w is, 3) := by rw [hb]; exact d4
  have hstr' : vk_R own is text sa s' := vk_R.warm hW0 hstr
  obtain ⟨U, hsteps, hrun, hend, hW, hsame, ce, hce, hO⟩ := X₁.ctorThrowS hexec htr (own := own) (cls := cls) (names := names) (ic := ic) hown' hcls hnames h (fun x hx => nomatch hx) hfX hkX hcellA (by rw [hhp, hT]; exact Nat.le_refl _) (msg := .ref sa) rfl
    (g := { method := m, pc := pc + 7, locals := ls, stack := .ref sa :: .ref T.heap.size :: .ref T.heap.size :: rest, locked := none }) rfl hsize rfl rfl (rest := rest) rfl
    (by rw [hb]; exact d7) (by rw [hb]; exact d10) hout hRframes (by simp only [List.map_cons, List.sum_cons, hcat]; omega) hlocks
  obtain ⟨f1, f2⟩ := vx_frame hsame
  rw [hhp] at f1 f2
  have hWs : s.WarmedH U.vm := State.WarmedH.trans hW0 hW
  have hcl : s.vm.findClass cls = some ce.cls := by
    have h9 := hO.cls
    rw [hvm] at h9
    exact h9
  have hall : s.sameButNew ({ U with vm := s.vm } : State) locs mc ms := by
    subst hA
    obtain ⟨e1, e2⟩ := hsame
    rw [State.setFrames_setFrames] at e1
    have h2 : (T.setVm s.vm).sameButNew ({ U with vm := s.vm } : State) [] (0 + 1) (0 + 6) := ⟨e1, e2⟩
    have h3 := X.same.trans h2
    rw [List.append_nil] at h3
    exact h3.mono hc hs
  refine ⟨U, ?_, .threw T.heap.size, hrun, hend, Or.inr ⟨T.heap.size, rfl, cls, ce, locs, hx U hWs.alike f1 (fun q hq => f2 q hq (fun z hz => nomatch hz)), hce, hO.vm, hcl, hWs, hall, hf⟩⟩
  refine st1 _ ?_
  show Steps p.tables e below (T1.setTop { method := m, pc := pc + 3, locals := ls, stack := .ref T.heap.size :: rest, locked := none }) _
  jvm_step X₁.here [X₁.here.top, hexec, d3', Value.category]
  exact X₁.ldcStringW hexec (own := own) (text := text) (index := is) (a := sa) hown' hstr'.1 hstr'.2
    (g := { method := m, pc := pc + 4, locals := ls, stack := .ref T.heap.size :: .ref T.heap.size :: rest, locked := none }) rfl d4' _ hsteps
end Ends
section Bodies
variable {l : Launch}
theorem vx_ofW {y : MethodName} {ws ws' : List Cond} {rm : Room} {Pc : Array Value → State → Prop} {Qc : Array Value → State → Outcome → State → Prop} {XC : String → State → State → Prop} {mc ms : Nat} {free : Addr → Prop} {cc : ByteArray} {maxL : Nat} {ret : Option FieldType}
    (hy : plainName y.cls = true) (hw : ws = Cond.code y cc maxL ret :: ws')
    (body : ∀ p e s m args below meth c s₁, BodyLoose p l y (headSpec ws rm) cc maxL ret e s m args below meth c s₁ → c.maxLocals = maxL → (∀ x ∈ c.exceptionTable.toList, False) → Pc args s →
      W p l e (headSpec ws rm).room s m args below meth c s.heap [] 0 0 (vx_MQ below Qc XC args s mc ms free) (entryFrame m args maxL)) : vx_Met l y ws rm Pc Qc XC mc ms free := by
  refine MetFree.of_bodyS (code := cc) (maxLocals := maxL) (ret := ret) hy ?_ ?_
  · intro args s m h hn
    obtain ⟨meth, c, h1, h2, h3, h4, h5, h6, -, -⟩ := Cond.code_spec hn (atoms_spec (ws := ws) h _ (by rw [hw]; exact List.mem_cons_self))
    exact ⟨meth, c, h1, h2, h3, h4, h5, h6⟩
  · intro p e s m args below meth c s₁ B hml hP _
    have hh0 : s₁.heap = s.heap := by rw [B.state]; rfl
    have ht : ∀ x ∈ c.exceptionTable.toList, False := by
      obtain ⟨meth9, c9, h1, h2, -, -, -, -, h7, -⟩ := Cond.code_spec B.named (atoms_spec (ws := ws) B.pre _ (by rw [hw]; exact List.mem_cons_self))
      cases Option.some.inj (h1.symm.trans B.method)
      cases Option.some.inj (h2.symm.trans (Stand.of_body B).code)
      intro x hx
      rw [Array.isEmpty_iff.mp h7] at hx
      cases hx
    obtain ⟨t, a1, o, b1, b2, b3⟩ := body p e s m args below meth c s₁ B hml ht hP s₁ hh0 (Stand.of_body B)
    exact ⟨t, o, a1, b1, b2, b3⟩
theorem vx_table {p : Program} {x y : MethodName} {S : Spec} {cc bytes : ByteArray} {maxL maxL' : Nat} {ret ret' : Option FieldType} {e : Env} {s s₁ : State} {m : MethodId} {args : Array Value} {below : List Frame} {meth : Method} {c : Code} {hh : List (Nat × Nat × Nat × Nat)}
    (B : BodyLoose p l y S cc maxL ret e s m args below meth c s₁) (h : (Cond.codeWith y bytes maxL' ret' hh).before args s = true) : c.exceptionTable.toList = tableOf hh := by
  obtain ⟨m9, meth9, c9, hn9, h1, h2, -, -, h6, -⟩ := Cond.codeWith_spec h
  cases Option.some.inj (hn9.symm.trans B.named)
  cases Option.some.inj (h1.symm.trans B.method)
  cases Option.some.inj (h2.symm.trans (Stand.of_body B).code)
  rw [← h6, table_eq]
end Bodies
end VXA
section VXS
variable {p : Program} {l : Launch} {e : Env} {R : Room} {s : State} {m : MethodId} {args : Array Value} {below : List Frame} {meth : Method} {c : Code} {T : State} {H : Heap} {locs : List Loc} {cells slots : Nat}
abbrev vx_CSW (R : Room) (s : State) (args : Array Value) (own : String) (index : Nat) (y : MethodName) (bytes : ByteArray) (maxL : Nat) (ret : Option FieldType) (hh : List (Nat × Nat × Nat × Nat)) (ws : List Cond) (rm : Room) (mc ms n : Nat) : Prop :=
  (rm.cells = mc ∧ rm.slots = ms ∧ rm.frames + 1 ≤ R.frames ∧ 8 + (maxL + 11) + rm.locals ≤ R.locals ∧ (∀ w ∈ ws, ∀ (a' : Array Value) (U : State), s.WarmedH U.vm → w.before a' U = true) ∧ Cond.codeWith y bytes maxL ret hh ∈ ws) ∧
  (Cond.codeWith y bytes maxL ret hh).before args s = true ∧ (Cond.initialized y.cls).before args s = true ∧ (y.cls ≠ "java/lang/invoke/MethodHandle" ∧ y.cls ≠ "java/lang/invoke/VarHandle") ∧
  (∀ sig, parseMethodDescriptor y.desc = some sig → n = sig.parameters.length) ∧ (Cond.methodLink own index y).before args s = true ∧ (Cond.static y).before args s = true
theorem vx_cwSW {own : String} {index maxL mc ms : Nat} {y : MethodName} {bytes : ByteArray} {ret : Option FieldType} {hh : List (Nat × Nat × Nat × Nat)} {Ts ws ws' : List Cond} {rm : Room} (n : Nat) (ht : ∀ w ∈ Ts, w.before args s = true) (hT : GoodIn Ts (va_wsS own index y ws)) (hw : ws = Cond.codeWith y bytes maxL ret hh :: ws') (hrc : rm.cells = mc) (hrs : rm.slots = ms)
    (hd : y.cls ≠ "java/lang/invoke/MethodHandle" ∧ y.cls ≠ "java/lang/invoke/VarHandle" ∧ (parseMethodDescriptor y.desc).map (fun d => d.parameters.length) = some n) (hR : rm.frames + 1 ≤ R.frames ∧ 8 + (maxL + 11) + rm.locals ≤ R.locals) :
    vx_CSW R s args own index y bytes maxL ret hh ws rm mc ms n := by
  have ok : ∀ w ∈ va_wsS own index y ws, w.before args s = true := fun w h => ht w (hT w h).1
  have hG : GoodIn Ts ws := fun w h => hT w (by unfold va_wsS; exact List.mem_append_right _ h)
  have hc : Cond.codeWith y bytes maxL ret hh ∈ ws := by rw [hw]; exact List.mem_cons_self
  refine ⟨⟨hrc, hrs, hR.1, hR.2, pay_in ht hG, hc⟩, ht _ (hG _ hc).1, ok _ (by simp [va_wsS]), ⟨hd.1, hd.2.1⟩, fun sig h => ?_, ok _ (by simp [va_wsS]), ok _ (by simp [va_wsS])⟩
  have h2 := hd.2.2
  rw [h] at h2
  exact (Option.some.inj h2).symm
theorem vx_callSW (X : Stand p l e R s m args below meth c T locs cells slots) (hexec : p.tables.exec = Jvm.exec) {own : String} {index : Nat} {y : MethodName} {bytes : ByteArray} {maxL : Nat} {ret : Option FieldType} {hh : List (Nat × Nat × Nat × Nat)}
    (hown : s.vm.findClass own = some m.cls) (hlink : (Cond.methodLink own index y).before args s = true) (hstat : (Cond.static y).before args s = true) (hinit : (Cond.initialized y.cls).before args s = true)
    (hcode : (Cond.codeWith y bytes maxL ret hh).before args s = true) (hy : y.cls ≠ "java/lang/invoke/MethodHandle" ∧ y.cls ≠ "java/lang/invoke/VarHandle")
    {W9 : Nat} {Pre : Pt → Array Value → Prop} {Post : Pt → Array Value → Option Value → Pt → Prop} (hK : Back l R p e below s args y 3 W9 Pre Post)
    {g : JFrame} (hg : g.method = m) (hsize : g.locals.size = c.maxLocals) {argsL rest : List Value} (hlen : ∀ sig, parseMethodDescriptor y.desc = some sig → argsL.length = sig.parameters.length)
    (hstack : g.stack = argsL.reverse ++ rest) (hW : 2 * g.monitorRoom + (rest.map fun v => v.category).sum ≤ W9) (hdg : decode c.code g.pc = .ok (.invokestatic index, 3))
    (hpre : ∀ vm₁, s.WarmedH vm₁ → Pre ⟨T.setVm vm₁, locs, cells, slots⟩ argsL.toArray) :
    ∃ (v : Option Value) (vm₁ : Vm) (B : Pt), s.WarmedH vm₁ ∧ Stand p l e R s m args below meth c B.U B.locs B.cells B.slots ∧ Post ⟨T.setVm vm₁, locs, cells, slots⟩ argsL.toArray v B ∧
      ∀ target, Steps p.tables e below (B.U.setTop { g with pc := g.pc + 3, stack := v.toList ++ rest }) target → Steps p.tables e below (T.setTop g) target := by
  obtain ⟨mk, methM, cM, hnamed, hmethM, -, -, -, -, -, -, hsigM⟩ := Cond.codeWith_spec hcode
  have hstatic : methM.isStatic = true := Cond.static_spec hnamed hmethM hstat
  obtain ⟨kP, hkP, -⟩ := className_of_methodNamed hnamed
  have hinitP : kP.init = .initialized := Cond.initialized_spec (findClass_of_methodNamed hnamed) hkP hinit
  obtain ⟨vm₁, X₁, hstep₁⟩ := X.invokestatic hexec hown hlink hnamed hmethM hstatic hkP hinitP hy (g := g) hg (argsL := argsL) (rest := rest) (hlen _ hsigM) hstack hdg
  obtain ⟨v, B, X', hpost, hsteps⟩ := hK m meth c ⟨T.setVm vm₁, locs, cells, slots⟩ { g with stack := rest } (.invokestatic index) mk argsL.toArray X₁ hg hsize hdg hW (X₁.named hnamed) (hpre vm₁ X₁.warmed)
  exact ⟨v, vm₁, B, X₁.warmed, X', hpost, fun target h => hstep₁ _ fun acts => by rw [doInvoke_state]; exact hsteps.trans h⟩
theorem vx_runSW {y : MethodName} {bytes cc : ByteArray} {maxL nL mc ms n index : Nat} {ret : Option FieldType} {hh : List (Nat × Nat × Nat × Nat)} {ws : List Cond} {rm : Room} {Pc : Array Value → State → Prop} {Qc : Array Value → State → Outcome → State → Prop} {free : Addr → Prop} {Ts : List Cond} {own : String} {As rest : List Value} {g : JFrame}
    (S : CallFix p m c cc nL s args Ts own) (hM : Met l y ws rm Pc Qc mc ms free) (cw : vx_CSW R s args own index y bytes maxL ret hh ws rm mc ms n) (hp : PreS s H Pc As)
    (hg : g.method = m) (hn : As.length = n) (hsize : g.locals.size = nL) (hstack : g.stack = As.reverse ++ rest) (hW : 2 * g.monitorRoom + (rest.map fun v => v.category).sum ≤ 8) (hdg : decode cc g.pc = .ok (.invokestatic index, 3)) (hf : cells + mc ≤ R.cells ∧ slots + ms ≤ R.slots) :
    va_Run p l e R s m args below meth c H locs cells slots mc ms g rest (Qc As.toArray) (free) := by
  obtain ⟨⟨hrc, hrs, hfr, hlo, hws, hcw⟩, hcode, hini, hy, hlen, hl, hstt⟩ := cw
  have hK : Back l R p e below s args y 3 8 (PreOf R mc ms Pc) (PostOf Qc mc ms free) := va_backW (hh := hh) (bytes := bytes) (maxL := maxL) (ret := ret) hM hp.1 hrc hrs hfr hlo hws hcw (fun a' U hW => word_at hW (Or.inl (by first | rfl | simp [Cond.onTables, Cond.keeps, Cond.steady])) hini)
  obtain ⟨hx, hb, hml, ho, -⟩ := S
  intro T hT X
  obtain ⟨v, vm₁, ⟨U', l2, c2, s2⟩, hW₁, X', ⟨g', mk, t, L, e1, e2, hq, h1, hL, h2, h3⟩, st⟩ := vx_callSW X hx (hh := hh) (bytes := bytes) (maxL := maxL) (ret := ret) ho hl hstt hini hcode hy hK hg (hsize.trans hml.symm) (argsL := As) (rest := rest) (fun sig h => hn.trans (hlen sig h)) hstack hW (by rw [hb]; exact hdg)
    (fun vm₁ hW₁ => ⟨hf.1, hf.2, hp.2 (T.setVm vm₁) hT hW₁⟩)
  dsimp only [Pt.U, Pt.locs, Pt.cells, Pt.slots] at X' e1 e2 h1 h2 h3 st
  subst h1; subst h2; subst h3
  exact ⟨v, (T.setVm vm₁).calling g' mk As.toArray, t, U', L, hT, X', hL, e1, e2, hq, st⟩
theorem vx_lt {D : va_G} {cl : List vw_C} {ws : va_W} {H1 : Heap} (h : va_P D cl ws H1) {k : Nat} {q : Nat × va_E} (hk : ws[k]? = some q) : q.1 < H1.size := (h k q hk).lt
end VXS
end
section
abbrev rw_N (U : State) : Prop := va_Nw (.castable "java/lang/IllegalArgumentException" "java/lang/IllegalArgumentException") U ∧ va_Nw (.declares ⟨"java/lang/RuntimeException", "<init>", "(Ljava/lang/String;)V"⟩) U ∧ va_Nw (.declares ⟨"java/lang/Exception", "<init>", "(Ljava/lang/String;)V"⟩) U ∧ va_Nw (.declares ⟨"java/lang/Throwable", "<init>", "(Ljava/lang/String;)V"⟩) U
theorem rw_N.same {u U : State} (hv : u.vm = U.vm) (h : rw_N u) : rw_N U := ⟨va_Nw.same rfl hv h.1, va_Nw.same rfl hv h.2.1, va_Nw.same rfl hv h.2.2.1, va_Nw.same rfl hv h.2.2.2⟩
theorem rw_N.warm {s U : State} (hW : s.WarmedH U.vm) (h : rw_N s) : rw_N U := ⟨va_Nw.warmC hW h.1, va_Nw.warmD hW h.2.1, va_Nw.warmD hW h.2.2.1, va_Nw.warmD hW h.2.2.2⟩
abbrev rw_XA (A : Nat → Prop) (sa : Nat) (U : State) (H : Heap) : Prop := vx_Zq Bundle.tN "UNASSIGNED_STACK" Bundle.steD A U H ∧ vx_Zq Bundle.tN "SUPPRESSED_SENTINEL" Bundle.listD A U H ∧ vk_R RX0 96 "a number out of range" sa U ∧ rw_N U
theorem rw_XA.call {A : Nat → Prop} {sa : Nat} {U : State} {g : JFrame} {mk : MethodId} {a : Array Value} (h : rw_XA A sa U U.heap) : rw_XA A sa (U.calling g mk a) (U.calling g mk a).heap :=
  ⟨vx_Zq.moved (u := U) (U := U.calling g mk a) (Vm.Alike.refl U.vm) h.1, vx_Zq.moved (u := U) (U := U.calling g mk a) (Vm.Alike.refl U.vm) h.2.1, vk_R.same (u := U) rfl h.2.2.1, rw_N.same (u := U) rfl h.2.2.2⟩
theorem rw_XA.to {A B : Nat → Prop} {sa : Nat} {s U : State} {H : Heap} {locs : List Loc} (h : rw_XA A sa s s.heap) (hS : va_S A s.heap H locs) (hAB : ∀ q, B q → A q) (hU : U.heap = H) (hW : s.WarmedH U.vm) : rw_XA B sa U U.heap := by
  rw [hU]
  exact ⟨((vx_Zq.moved hW.alike (h.1.kept hS.2.1))).narrow hAB, ((vx_Zq.moved hW.alike (h.2.1.kept hS.2.1))).narrow hAB, vk_R.warm hW h.2.2.1, rw_N.warm hW h.2.2.2⟩
theorem rw_XA.go {sa : Nat} {s U : State} (h : rw_XA (fun q => s.heap.size ≤ q) sa s s.heap) (hU : U.heap = s.heap) (hW : s.WarmedH U.vm) : rw_XA (fun q => s.heap.size ≤ q) sa U U.heap := rw_XA.to h va_S.rf (fun _ z => z) hU hW
abbrev rw_XC (sz : Nat) : String → State → State → Prop := vx_X (fun _ : Unit => True) (fun E _ _ => E = "java/lang/IllegalArgumentException") (fun q => sz ≤ q)
set_option maxHeartbeats 4000000 in
set_option maxRecDepth 100000 in
theorem c_X0_requireWithin_x (l : Launch) (hl9 : l.stackTraces = false) (sz sa : Nat) (x lo hi : Int32) (hb0 : x < lo ∨ hi < x) : vx_Met l yX0_requireWithin wsX0_requireWithin ({ frames := 6, cells := 1, slots := 6, locals := 82 }) (va_Pc [.int x, .int lo, .int hi] (fun U => U.heap.size = sz ∧ rw_XA (fun q => sz ≤ q) sa U U.heap)) (va_Qv (fun _ : Unit => False) (fun _ _ => False) (fun q => sz ≤ q)) (rw_XC sz) 1 6 (fun q => sz ≤ q) := by
  refine vx_ofW (cc := cX0_requireWithin) (maxL := 3) (ret := none) (by decide) rfl ?_
  intro p e s m args below meth c s₁ B hml hno hv
  obtain ⟨rfl, hsz, hX⟩ := hv
  have hx := B.exec
  have hb := B.bytes
  have hr := B.returns
  have hts := atoms_spec (ws := wsX0_requireWithin) B.pre
  have hown : s.vm.findClass RX0 = some m.cls := findClass_of_methodNamed B.named
  have hlocks := B.notSynchronized
  subst hsz
  have hS : va_S (fun q => s.heap.size ≤ q) s.heap s.heap [] := va_S.rf
  have hl := lv_entry ([.int x, .int lo, .int hi]) (n := 3) (Nat.le_of_ble_eq_true rfl)
  rw [lg_entry_eq]
  generalize (lg_sl ([.int x, .int lo, .int hi]) ++ List.replicate (3 - (lg_sl ([.int x, .int lo, .int hi])).length) Slot.unset).toArray = ls at hl ⊢
  have hl : lv_has ls 3 [(0, .int x), (1, .int lo), (2, .int hi)] := hl
  refine lv_iload_n hx hb dX0_requireWithin_0 rfl (lv_at hl 0 rfl) ?_
  refine lv_iload_n hx hb dX0_requireWithin_1 rfl (lv_at hl 1 rfl) ?_
  refine lv_icmp_lt (tgt := 10) hx hb dX0_requireWithin_2 (by decide) (fun q1 => ?_) (fun q1 => ?_)
  · exact vx_throwS (names := ["java/lang/RuntimeException", "java/lang/Exception"]) (A := fun q => s.heap.size ≤ q) (sa := sa) hx hb hl9 hown (by decide +kernel) (by decide +kernel) (hts (.classLink RX0 94 "java/lang/IllegalArgumentException") (by decide +kernel)) (hts (.initialized "java/lang/IllegalArgumentException") (by decide +kernel)) hX.2.2.1 (vx_hat (B := [.castable "java/lang/IllegalArgumentException" "java/lang/IllegalArgumentException", .declares ⟨"java/lang/RuntimeException", "<init>", "(Ljava/lang/String;)V"⟩, .declares ⟨"java/lang/Exception", "<init>", "(Ljava/lang/String;)V"⟩, .declares ⟨"java/lang/Throwable", "<init>", "(Ljava/lang/String;)V"⟩]) (fun w hw => hts w (List.mem_cons_of_mem _ (List.mem_append_right _ hw))) (by decide +kernel) (vx_c (va_Nw.use rfl hX.2.2.2.1) (vx_c (va_Nw.use rfl hX.2.2.2.2.1) (vx_c (va_Nw.use rfl hX.2.2.2.2.2.1) (vx_c (va_Nw.use rfl hX.2.2.2.2.2.2) vx_n))))) (by decide +kernel) hX.1 hX.2.1 hS (hl.1.trans hml.symm) dX0_requireWithin_10 dX0_requireWithin_13 dX0_requireWithin_14 dX0_requireWithin_16 dX0_requireWithin_19 (fun x h => (hno x h).elim) (Nat.le_of_ble_eq_true rfl) (Nat.le_of_ble_eq_true rfl) (Nat.le_of_ble_eq_true rfl) (Nat.le_of_ble_eq_true rfl) hlocks (fun t ha hz hk => ⟨(), trivial, rfl, hz, fun q hq _ => hk q hq⟩) (fun z h => by cases h) (Nat.le_refl _) (Nat.le_refl _)
  · refine lv_iload_n hx hb dX0_requireWithin_5 rfl (lv_at hl 0 rfl) ?_
    refine lv_iload_n hx hb dX0_requireWithin_6 rfl (lv_at hl 2 rfl) ?_
    refine lv_icmp_le (tgt := 20) hx hb dX0_requireWithin_7 (by decide) (fun q2 => ?_) (fun q2 => ?_)
    · exact absurd hb0 (not_or.mpr ⟨q1, Int32.not_lt.mpr q2⟩)
    · exact vx_throwS (names := ["java/lang/RuntimeException", "java/lang/Exception"]) (A := fun q => s.heap.size ≤ q) (sa := sa) hx hb hl9 hown (by decide +kernel) (by decide +kernel) (hts (.classLink RX0 94 "java/lang/IllegalArgumentException") (by decide +kernel)) (hts (.initialized "java/lang/IllegalArgumentException") (by decide +kernel)) hX.2.2.1 (vx_hat (B := [.castable "java/lang/IllegalArgumentException" "java/lang/IllegalArgumentException", .declares ⟨"java/lang/RuntimeException", "<init>", "(Ljava/lang/String;)V"⟩, .declares ⟨"java/lang/Exception", "<init>", "(Ljava/lang/String;)V"⟩, .declares ⟨"java/lang/Throwable", "<init>", "(Ljava/lang/String;)V"⟩]) (fun w hw => hts w (List.mem_cons_of_mem _ (List.mem_append_right _ hw))) (by decide +kernel) (vx_c (va_Nw.use rfl hX.2.2.2.1) (vx_c (va_Nw.use rfl hX.2.2.2.2.1) (vx_c (va_Nw.use rfl hX.2.2.2.2.2.1) (vx_c (va_Nw.use rfl hX.2.2.2.2.2.2) vx_n))))) (by decide +kernel) hX.1 hX.2.1 hS (hl.1.trans hml.symm) dX0_requireWithin_10 dX0_requireWithin_13 dX0_requireWithin_14 dX0_requireWithin_16 dX0_requireWithin_19 (fun x h => (hno x h).elim) (Nat.le_of_ble_eq_true rfl) (Nat.le_of_ble_eq_true rfl) (Nat.le_of_ble_eq_true rfl) (Nat.le_of_ble_eq_true rfl) hlocks (fun t ha hz hk => ⟨(), trivial, rfl, hz, fun q hq _ => hk q hq⟩) (fun z h => by cases h) (Nat.le_refl _) (Nat.le_refl _)
end
section
set_option maxHeartbeats 4000000 in
set_option maxRecDepth 100000 in
theorem c_X0_requireRow_x (l : Launch) (hl9 : l.stackTraces = false) (sz sa : Nat) (dC : Nat → ClassId) (dI : Nat → Nat → Nat) (cI : ClassId) (h0 ab rc rl ps : Nat) (f : Nat → Int32) (y : Int32) (hb0 : y < 0 ∨ nI rc - 1 < y) : vx_Met l yX0_requireRow wsX0_requireRow ({ frames := 7, cells := 1, slots := 6, locals := 104 }) (va_Pc [.ref h0, .int y] (fun U => U.heap.size = sz ∧ rw_XA (fun q => sz ≤ q) sa U U.heap ∧ rw_pre dC dI cI h0 ab rc rl ps f U)) (va_Qv (fun _ : Unit => False) (fun _ _ => False) (fun q => sz ≤ q)) (rw_XC sz) 1 6 (fun q => sz ≤ q) := by
  refine vx_ofW (cc := cX0_requireRow) (maxL := 2) (ret := none) (by decide) rfl ?_
  intro p e s m args below meth c s₁ B hml hno hv
  obtain ⟨rfl, hsz, hX, hP, hK⟩ := hv
  have hx := B.exec
  have hb := B.bytes
  have hr := B.returns
  have hts := atoms_spec (ws := wsX0_requireRow) B.pre
  have hown : s.vm.findClass RX0 = some m.cls := findClass_of_methodNamed B.named
  have hlocks := B.notSynchronized
  subst hsz
  have hS : va_S (fun q => s.heap.size ≤ q) s.heap s.heap [] := va_S.rf
  have hP : va_P (dC, dI) rw_cl (rw_W h0 ab cI rc rl ps f) s.heap := hP
  have hl := lv_entry ([.ref h0, .int y]) (n := 2) (Nat.le_of_ble_eq_true rfl)
  rw [lg_entry_eq]
  generalize (lg_sl ([.ref h0, .int y]) ++ List.replicate (2 - (lg_sl ([.ref h0, .int y])).length) Slot.unset).toArray = ls at hl ⊢
  have hl : lv_has ls 2 [(0, .ref h0), (1, .int y)] := hl
  refine lv_iload_n hx hb dX0_requireRow_0 rfl (lv_at hl 1 rfl) ?_
  refine lv_iconst (v := 0) hx hb dX0_requireRow_1 (by decide) ?_
  refine lv_aload_n hx hb dX0_requireRow_2 rfl (lv_at hl 0 rfl) ?_
  refine va_get (D := (dC, dI)) (ci := 0) (v := .int (nI rc)) (C := RX0) (T := TX0) (N := 4) hx hb hts (by decide +kernel) hown hK hP 0 rfl rfl 1 (by decide) (hts (.fieldLink RX0 13 "RowFilters" "rowCount" "I") (by decide +kernel)) (fun _ h9 => h9) rfl dX0_requireRow_3 ?_
  refine lv_iconst (v := 1) hx hb dX0_requireRow_6 (by decide) ?_
  refine lv_isub hx hb dX0_requireRow_7 ?_
  refine vx_callv (vx_runS (As := [.int y, .int 0, .int ((nI rc) - 1)]) (rest := []) ⟨hx, hb, hml, hown, hts⟩ (c_X0_requireWithin_x l hl9 s.heap.size sa y 0 (nI rc - 1) hb0) (va_cwS 3 hts gX0_requireRow_X0_requireWithin rfl rfl rfl (by decide +kernel) ⟨Nat.le_of_ble_eq_true rfl, Nat.le_of_ble_eq_true rfl⟩) ⟨fun a U g mk q => by obtain ⟨q0, q1, qX⟩ := q; exact ⟨q0, q1, rw_XA.call qX⟩, fun U hU hW => ⟨rfl, by rw [hU], rw_XA.go hX hU hW⟩⟩ rfl rfl hl.1 rfl (lv_room (Nat.le_of_ble_eq_true rfl)) dX0_requireRow_8 ⟨Nat.le_refl _, Nat.le_refl _⟩) hS (fun q _ h => h) (fun q h => h) (fun q _ h => h) (fun E ce q9 u t9 H1 locs ht hvm hpx hE hz1 hk1 hS hc1 hc2 hc3 => ?_) (fun u t9 H1 locs ht hvm hw hB hz1 hk1 hS => hw.elim)
  exact vx_out (fun x h => (hno x h).elim) hlocks hc1 hc2 hc3 (fun t ht2 ha => ⟨(), trivial, hE, hS.F ht2⟩) hS.2.2 (Nat.le_refl _) (Nat.le_refl _)
set_option maxHeartbeats 4000000 in
set_option maxRecDepth 100000 in
theorem c_X0_requireFilter_x (l : Launch) (hl9 : l.stackTraces = false) (sz sa : Nat) (q : Int32) (hb0 : q < 0 ∨ 4 < q) : vx_Met l yX0_requireFilter wsX0_requireFilter ({ frames := 7, cells := 1, slots := 6, locals := 104 }) (va_Pc [.int q] (fun U => U.heap.size = sz ∧ rw_XA (fun q => sz ≤ q) sa U U.heap)) (va_Qv (fun _ : Unit => False) (fun _ _ => False) (fun q => sz ≤ q)) (rw_XC sz) 1 6 (fun q => sz ≤ q) := by
  refine vx_ofW (cc := cX0_requireFilter) (maxL := 1) (ret := none) (by decide) rfl ?_
  intro p e s m args below meth c s₁ B hml hno hv
  obtain ⟨rfl, hsz, hX⟩ := hv
  have hx := B.exec
  have hb := B.bytes
  have hr := B.returns
  have hts := atoms_spec (ws := wsX0_requireFilter) B.pre
  have hown : s.vm.findClass RX0 = some m.cls := findClass_of_methodNamed B.named
  have hlocks := B.notSynchronized
  subst hsz
  have hS : va_S (fun q => s.heap.size ≤ q) s.heap s.heap [] := va_S.rf
  have hl := lv_entry ([.int q]) (n := 1) (Nat.le_of_ble_eq_true rfl)
  rw [lg_entry_eq]
  generalize (lg_sl ([.int q]) ++ List.replicate (1 - (lg_sl ([.int q])).length) Slot.unset).toArray = ls at hl ⊢
  have hl : lv_has ls 1 [(0, .int q)] := hl
  refine lv_iload_n hx hb dX0_requireFilter_0 rfl (lv_at hl 0 rfl) ?_
  refine lv_iconst (v := 0) hx hb dX0_requireFilter_1 (by decide) ?_
  refine lv_iconst (v := 4) hx hb dX0_requireFilter_2 (by decide) ?_
  refine vx_callv (vx_runS (As := [.int q, .int 0, .int 4]) (rest := []) ⟨hx, hb, hml, hown, hts⟩ (c_X0_requireWithin_x l hl9 s.heap.size sa q 0 4 hb0) (va_cwS 3 hts gX0_requireFilter_X0_requireWithin rfl rfl rfl (by decide +kernel) ⟨Nat.le_of_ble_eq_true rfl, Nat.le_of_ble_eq_true rfl⟩) ⟨fun a U g mk q => by obtain ⟨q0, q1, qX⟩ := q; exact ⟨q0, q1, rw_XA.call qX⟩, fun U hU hW => ⟨rfl, by rw [hU], rw_XA.go hX hU hW⟩⟩ rfl rfl hl.1 rfl (lv_room (Nat.le_of_ble_eq_true rfl)) dX0_requireFilter_3 ⟨Nat.le_refl _, Nat.le_refl _⟩) hS (fun q _ h => h) (fun q h => h) (fun q _ h => h) (fun E ce q9 u t9 H1 locs ht hvm hpx hE hz1 hk1 hS hc1 hc2 hc3 => ?_) (fun u t9 H1 locs ht hvm hw hB hz1 hk1 hS => hw.elim)
  exact vx_out (fun x h => (hno x h).elim) hlocks hc1 hc2 hc3 (fun t ht2 ha => ⟨(), trivial, hE, hS.F ht2⟩) hS.2.2 (Nat.le_refl _) (Nat.le_refl _)
set_option maxHeartbeats 4000000 in
set_option maxRecDepth 100000 in
theorem c_X0_requireByte_x (l : Launch) (hl9 : l.stackTraces = false) (sz sa : Nat) (dC : Nat → ClassId) (dI : Nat → Nat → Nat) (cI : ClassId) (h0 ab rc rl ps : Nat) (f : Nat → Int32) (y i : Int32) (hb0 : (y < 0 ∨ nI rc - 1 < y) ∨ (i < 0 ∨ nI rl - 1 < i)) : vx_Met l yX0_requireByte wsX0_requireByte ({ frames := 8, cells := 1, slots := 6, locals := 125 }) (va_Pc [.ref h0, .int y, .int i] (fun U => U.heap.size = sz ∧ rw_XA (fun q => sz ≤ q) sa U U.heap ∧ rw_pre dC dI cI h0 ab rc rl ps f U)) (va_Qv (fun _ : Unit => False) (fun _ _ => False) (fun q => sz ≤ q)) (rw_XC sz) 1 6 (fun q => sz ≤ q) := by
  refine vx_ofW (cc := cX0_requireByte) (maxL := 3) (ret := none) (by decide) rfl ?_
  intro p e s m args below meth c s₁ B hml hno hv
  obtain ⟨rfl, hsz, hX, hP, hK⟩ := hv
  have hx := B.exec
  have hb := B.bytes
  have hr := B.returns
  have hts := atoms_spec (ws := wsX0_requireByte) B.pre
  have hown : s.vm.findClass RX0 = some m.cls := findClass_of_methodNamed B.named
  have hlocks := B.notSynchronized
  subst hsz
  have hS : va_S (fun q => s.heap.size ≤ q) s.heap s.heap [] := va_S.rf
  have hP : va_P (dC, dI) rw_cl (rw_W h0 ab cI rc rl ps f) s.heap := hP
  have hl := lv_entry ([.ref h0, .int y, .int i]) (n := 3) (Nat.le_of_ble_eq_true rfl)
  rw [lg_entry_eq]
  generalize (lg_sl ([.ref h0, .int y, .int i]) ++ List.replicate (3 - (lg_sl ([.ref h0, .int y, .int i])).length) Slot.unset).toArray = ls at hl ⊢
  have hl : lv_has ls 3 [(0, .ref h0), (1, .int y), (2, .int i)] := hl
  refine lv_aload_n hx hb dX0_requireByte_0 rfl (lv_at hl 0 rfl) ?_
  refine lv_iload_n hx hb dX0_requireByte_1 rfl (lv_at hl 1 rfl) ?_
  by_cases a1 : y < 0 ∨ nI rc - 1 < y
  · refine vx_callv (vx_runV (C := RX0) (As := [.int y]) (rest := []) ⟨hx, hb, hml, hown, hts⟩ (c_X0_requireRow_x l hl9 s.heap.size sa dC dI cI h0 ab rc rl ps f y a1) (cwV 1 hts gX0_requireByte_X0_requireRow rfl rfl rfl (by decide +kernel) ⟨Nat.le_of_ble_eq_true rfl, Nat.le_of_ble_eq_true rfl⟩) ⟨fun a U g mk q => by obtain ⟨q0, q1, qX, qP, qK⟩ := q; exact ⟨q0, q1, rw_XA.call qX, qP, va_K.moved (u := U) (U := U.calling g mk a) (Vm.Alike.refl U.vm) qK⟩, va_recv hK hP (ci := 0) (q0 := 0) rfl rfl, fun U hU hW => ⟨rfl, by rw [hU], rw_XA.go hX hU hW, by rw [hU]; exact hP, va_K.moved hW.alike hK⟩⟩ rfl rfl hl.1 rfl (lv_room (Nat.le_of_ble_eq_true rfl)) dX0_requireByte_2 ⟨Nat.le_refl _, Nat.le_refl _⟩) hS (fun q _ h => h) (fun q h => h) (fun q _ h => h) (fun E ce q9 u t9 H1 locs ht hvm hpx hE hz1 hk1 hS hc1 hc2 hc3 => ?_) (fun u t9 H1 locs ht hvm hw hB hz1 hk1 hS => hw.elim)
    exact vx_out (fun x h => (hno x h).elim) hlocks hc1 hc2 hc3 (fun t ht2 ha => ⟨(), trivial, hE, hS.F ht2⟩) hS.2.2 (Nat.le_refl _) (Nat.le_refl _)
  · have b1 := not_or.mp a1
    refine va_csv (W.runV (C := RX0) (As := [.int y]) (rest := []) ⟨hx, hb, hml, hown, hts⟩ (c_X0_requireRow l dC dI cI h0 ab rc rl ps f y b1.1 b1.2) (cwV 1 hts gX0_requireByte_X0_requireRow rfl rfl rfl (by decide +kernel) ⟨Nat.le_of_ble_eq_true rfl, Nat.le_of_ble_eq_true rfl⟩) ⟨fun a U g mk q => by obtain ⟨q0, qP, qK⟩ := q; exact ⟨q0, qP, va_K.moved (u := U) (U := U.calling g mk a) (Vm.Alike.refl U.vm) qK⟩, va_recv hK hP (ci := 0) (q0 := 0) rfl rfl, fun U hU hW => ⟨rfl, by rw [hU]; exact hP, va_K.moved hW.alike hK⟩⟩ rfl rfl hl.1 rfl (lv_room (Nat.le_of_ble_eq_true rfl)) dX0_requireByte_2 ⟨Nat.zero_le _, Nat.zero_le _⟩) (fun _ => ?_)
    have hb1 := hb0.resolve_left a1
    refine lv_iload_n hx hb dX0_requireByte_5 rfl (lv_at hl 2 rfl) ?_
    refine lv_iconst (v := 0) hx hb dX0_requireByte_6 (by decide) ?_
    refine lv_aload_n hx hb dX0_requireByte_7 rfl (lv_at hl 0 rfl) ?_
    refine va_get (D := (dC, dI)) (ci := 0) (v := .int (nI rl)) (C := RX0) (T := TX0) (N := 4) hx hb hts (by decide +kernel) hown hK hP 0 rfl rfl 2 (by decide) (hts (.fieldLink RX0 17 "RowFilters" "rowLength" "I") (by decide +kernel)) (fun _ h9 => h9) rfl dX0_requireByte_8 ?_
    refine lv_iconst (v := 1) hx hb dX0_requireByte_11 (by decide) ?_
    refine lv_isub hx hb dX0_requireByte_12 ?_
    refine vx_callv (vx_runS (As := [.int i, .int 0, .int ((nI rl) - 1)]) (rest := []) ⟨hx, hb, hml, hown, hts⟩ (c_X0_requireWithin_x l hl9 s.heap.size sa i 0 (nI rl - 1) hb1) (va_cwS 3 hts gX0_requireByte_X0_requireWithin rfl rfl rfl (by decide +kernel) ⟨Nat.le_of_ble_eq_true rfl, Nat.le_of_ble_eq_true rfl⟩) ⟨fun a U g mk q => by obtain ⟨q0, q1, qX⟩ := q; exact ⟨q0, q1, rw_XA.call qX⟩, fun U hU hW => ⟨rfl, by rw [hU], rw_XA.go hX hU hW⟩⟩ rfl rfl hl.1 rfl (lv_room (Nat.le_of_ble_eq_true rfl)) dX0_requireByte_13 ⟨Nat.le_refl _, Nat.le_refl _⟩) hS (fun q _ h => h) (fun q h => h) (fun q _ h => h) (fun E ce q9 u t9 H1 locs ht hvm hpx hE hz1 hk1 hS hc1 hc2 hc3 => ?_) (fun u t9 H1 locs ht hvm hw hB hz1 hk1 hS => hw.elim)
    exact vx_out (fun x h => (hno x h).elim) hlocks hc1 hc2 hc3 (fun t ht2 ha => ⟨(), trivial, hE, hS.F ht2⟩) hS.2.2 (Nat.le_refl _) (Nat.le_refl _)
set_option maxHeartbeats 4000000 in
set_option maxRecDepth 100000 in
theorem c_X0_get_x (l : Launch) (hl9 : l.stackTraces = false) (sz sa : Nat) (dC : Nat → ClassId) (dI : Nat → Nat → Nat) (cI : ClassId) (h0 ab rc rl ps : Nat) (f : Nat → Int32) (y i : Int32) (hb0 : (y < 0 ∨ nI rc - 1 < y) ∨ (i < 0 ∨ nI rl - 1 < i)) : vx_Met l yX0_get wsX0_get ({ frames := 9, cells := 1, slots := 6, locals := 147 }) (va_Pc [.ref h0, .int y, .int i] (fun U => U.heap.size = sz ∧ rw_XA (fun q => sz ≤ q) sa U U.heap ∧ rw_pre dC dI cI h0 ab rc rl ps f U)) (va_Qi (fun (_ : Int32) (_ : Unit) => False) (fun _ _ => False) (fun q => sz ≤ q)) (rw_XC sz) 1 6 (fun q => sz ≤ q) := by
  refine vx_ofW (cc := cX0_get) (maxL := 3) (ret := (some .int)) (by decide) rfl ?_
  intro p e s m args below meth c s₁ B hml hno hv
  obtain ⟨rfl, hsz, hX, hP, hK⟩ := hv
  have hx := B.exec
  have hb := B.bytes
  have hr := B.returns
  have hts := atoms_spec (ws := wsX0_get) B.pre
  have hown : s.vm.findClass RX0 = some m.cls := findClass_of_methodNamed B.named
  have hlocks := B.notSynchronized
  subst hsz
  have hS : va_S (fun q => s.heap.size ≤ q) s.heap s.heap [] := va_S.rf
  have hP : va_P (dC, dI) rw_cl (rw_W h0 ab cI rc rl ps f) s.heap := hP
  have hl := lv_entry ([.ref h0, .int y, .int i]) (n := 3) (Nat.le_of_ble_eq_true rfl)
  rw [lg_entry_eq]
  generalize (lg_sl ([.ref h0, .int y, .int i]) ++ List.replicate (3 - (lg_sl ([.ref h0, .int y, .int i])).length) Slot.unset).toArray = ls at hl ⊢
  have hl : lv_has ls 3 [(0, .ref h0), (1, .int y), (2, .int i)] := hl
  refine lv_aload_n hx hb dX0_get_0 rfl (lv_at hl 0 rfl) ?_
  refine lv_iload_n hx hb dX0_get_1 rfl (lv_at hl 1 rfl) ?_
  refine lv_iload_n hx hb dX0_get_2 rfl (lv_at hl 2 rfl) ?_
  refine vx_callv (vx_runV (C := RX0) (As := [.int y, .int i]) (rest := []) ⟨hx, hb, hml, hown, hts⟩ (c_X0_requireByte_x l hl9 s.heap.size sa dC dI cI h0 ab rc rl ps f y i hb0) (cwV 2 hts gX0_get_X0_requireByte rfl rfl rfl (by decide +kernel) ⟨Nat.le_of_ble_eq_true rfl, Nat.le_of_ble_eq_true rfl⟩) ⟨fun a U g mk q => by obtain ⟨q0, q1, qX, qP, qK⟩ := q; exact ⟨q0, q1, rw_XA.call qX, qP, va_K.moved (u := U) (U := U.calling g mk a) (Vm.Alike.refl U.vm) qK⟩, va_recv hK hP (ci := 0) (q0 := 0) rfl rfl, fun U hU hW => ⟨rfl, by rw [hU], rw_XA.go hX hU hW, by rw [hU]; exact hP, va_K.moved hW.alike hK⟩⟩ rfl rfl hl.1 rfl (lv_room (Nat.le_of_ble_eq_true rfl)) dX0_get_3 ⟨Nat.le_refl _, Nat.le_refl _⟩) hS (fun q _ h => h) (fun q h => h) (fun q _ h => h) (fun E ce q9 u t9 H1 locs ht hvm hpx hE hz1 hk1 hS hc1 hc2 hc3 => ?_) (fun u t9 H1 locs ht hvm hw hB hz1 hk1 hS => hw.elim)
  exact vx_out (fun x h => (hno x h).elim) hlocks hc1 hc2 hc3 (fun t ht2 ha => ⟨(), trivial, hE, hS.F ht2⟩) hS.2.2 (Nat.le_refl _) (Nat.le_refl _)
set_option maxHeartbeats 4000000 in
set_option maxRecDepth 100000 in
theorem c_X0_set_x (l : Launch) (hl9 : l.stackTraces = false) (sz sa : Nat) (dC : Nat → ClassId) (dI : Nat → Nat → Nat) (cI : ClassId) (h0 ab rc rl ps : Nat) (f : Nat → Int32) (y i v : Int32) (hb0 : ((y < 0 ∨ nI rc - 1 < y) ∨ (i < 0 ∨ nI rl - 1 < i)) ∨ (v < 0 ∨ 255 < v)) : vx_Met l yX0_set wsX0_set ({ frames := 9, cells := 1, slots := 6, locals := 147 }) (va_Pc [.ref h0, .int y, .int i, .int v] (fun U => U.heap.size = sz ∧ rw_XA (fun q => sz ≤ q) sa U U.heap ∧ rw_pre dC dI cI h0 ab rc rl ps f U)) (va_Qi (fun (_ : Int32) (_ : Unit) => False) (fun _ _ => False) (fun q => sz ≤ q)) (rw_XC sz) 1 6 (fun q => sz ≤ q) := by
  refine vx_ofW (cc := cX0_set) (maxL := 6) (ret := (some .int)) (by decide) rfl ?_
  intro p e s m args below meth c s₁ B hml hno hv
  obtain ⟨rfl, hsz, hX, hP, hK⟩ := hv
  have hx := B.exec
  have hb := B.bytes
  have hr := B.returns
  have hts := atoms_spec (ws := wsX0_set) B.pre
  have hown : s.vm.findClass RX0 = some m.cls := findClass_of_methodNamed B.named
  have hlocks := B.notSynchronized
  subst hsz
  have hS : va_S (fun q => s.heap.size ≤ q) s.heap s.heap [] := va_S.rf
  have hP : va_P (dC, dI) rw_cl (rw_W h0 ab cI rc rl ps f) s.heap := hP
  have hl := lv_entry ([.ref h0, .int y, .int i, .int v]) (n := 6) (Nat.le_of_ble_eq_true rfl)
  rw [lg_entry_eq]
  generalize (lg_sl ([.ref h0, .int y, .int i, .int v]) ++ List.replicate (6 - (lg_sl ([.ref h0, .int y, .int i, .int v])).length) Slot.unset).toArray = ls at hl ⊢
  have hl : lv_has ls 6 [(0, .ref h0), (1, .int y), (2, .int i), (3, .int v)] := hl
  refine lv_aload_n hx hb dX0_set_0 rfl (lv_at hl 0 rfl) ?_
  refine lv_iload_n hx hb dX0_set_1 rfl (lv_at hl 1 rfl) ?_
  refine lv_iload_n hx hb dX0_set_2 rfl (lv_at hl 2 rfl) ?_
  by_cases a1 : (y < 0 ∨ nI rc - 1 < y) ∨ (i < 0 ∨ nI rl - 1 < i)
  · refine vx_callv (vx_runV (C := RX0) (As := [.int y, .int i]) (rest := []) ⟨hx, hb, hml, hown, hts⟩ (c_X0_requireByte_x l hl9 s.heap.size sa dC dI cI h0 ab rc rl ps f y i a1) (cwV 2 hts gX0_set_X0_requireByte rfl rfl rfl (by decide +kernel) ⟨Nat.le_of_ble_eq_true rfl, Nat.le_of_ble_eq_true rfl⟩) ⟨fun a U g mk q => by obtain ⟨q0, q1, qX, qP, qK⟩ := q; exact ⟨q0, q1, rw_XA.call qX, qP, va_K.moved (u := U) (U := U.calling g mk a) (Vm.Alike.refl U.vm) qK⟩, va_recv hK hP (ci := 0) (q0 := 0) rfl rfl, fun U hU hW => ⟨rfl, by rw [hU], rw_XA.go hX hU hW, by rw [hU]; exact hP, va_K.moved hW.alike hK⟩⟩ rfl rfl hl.1 rfl (lv_room (Nat.le_of_ble_eq_true rfl)) dX0_set_3 ⟨Nat.le_refl _, Nat.le_refl _⟩) hS (fun q _ h => h) (fun q h => h) (fun q _ h => h) (fun E ce q9 u t9 H1 locs ht hvm hpx hE hz1 hk1 hS hc1 hc2 hc3 => ?_) (fun u t9 H1 locs ht hvm hw hB hz1 hk1 hS => hw.elim)
    exact vx_out (fun x h => (hno x h).elim) hlocks hc1 hc2 hc3 (fun t ht2 ha => ⟨(), trivial, hE, hS.F ht2⟩) hS.2.2 (Nat.le_refl _) (Nat.le_refl _)
  · have b1 := not_or.mp a1
    refine va_csv (W.runV (C := RX0) (As := [.int y, .int i]) (rest := []) ⟨hx, hb, hml, hown, hts⟩ (c_X0_requireByte l dC dI cI h0 ab rc rl ps f y i (not_or.mp b1.1).1 (not_or.mp b1.1).2 (not_or.mp b1.2).1 (not_or.mp b1.2).2) (cwV 2 hts gX0_set_X0_requireByte rfl rfl rfl (by decide +kernel) ⟨Nat.le_of_ble_eq_true rfl, Nat.le_of_ble_eq_true rfl⟩) ⟨fun a U g mk q => by obtain ⟨q0, qP, qK⟩ := q; exact ⟨q0, qP, va_K.moved (u := U) (U := U.calling g mk a) (Vm.Alike.refl U.vm) qK⟩, va_recv hK hP (ci := 0) (q0 := 0) rfl rfl, fun U hU hW => ⟨rfl, by rw [hU]; exact hP, va_K.moved hW.alike hK⟩⟩ rfl rfl hl.1 rfl (lv_room (Nat.le_of_ble_eq_true rfl)) dX0_set_3 ⟨Nat.zero_le _, Nat.zero_le _⟩) (fun _ => ?_)
    refine lv_iload_n hx hb dX0_set_6 rfl (lv_at hl 3 rfl) ?_
    refine lv_iconst (v := 0) hx hb dX0_set_7 (by decide) ?_
    refine lv_sipush (v := 255) hx hb dX0_set_8 (by decide) ?_
    refine vx_callv (vx_runS (As := [.int v, .int 0, .int 255]) (rest := []) ⟨hx, hb, hml, hown, hts⟩ (c_X0_requireWithin_x l hl9 s.heap.size sa v 0 255 (hb0.resolve_left a1)) (va_cwS 3 hts gX0_set_X0_requireWithin rfl rfl rfl (by decide +kernel) ⟨Nat.le_of_ble_eq_true rfl, Nat.le_of_ble_eq_true rfl⟩) ⟨fun a U g mk q => by obtain ⟨q0, q1, qX⟩ := q; exact ⟨q0, q1, rw_XA.call qX⟩, fun U hU hW => ⟨rfl, by rw [hU], rw_XA.go hX hU hW⟩⟩ rfl rfl hl.1 rfl (lv_room (Nat.le_of_ble_eq_true rfl)) dX0_set_11 ⟨Nat.le_refl _, Nat.le_refl _⟩) hS (fun q _ h => h) (fun q h => h) (fun q _ h => h) (fun E ce q9 u t9 H1 locs ht hvm hpx hE hz1 hk1 hS hc1 hc2 hc3 => ?_) (fun u t9 H1 locs ht hvm hw hB hz1 hk1 hS => hw.elim)
    exact vx_out (fun x h => (hno x h).elim) hlocks hc1 hc2 hc3 (fun t ht2 ha => ⟨(), trivial, hE, hS.F ht2⟩) hS.2.2 (Nat.le_refl _) (Nat.le_refl _)
set_option maxHeartbeats 4000000 in
set_option maxRecDepth 100000 in
theorem c_X0_filter_x (l : Launch) (hl9 : l.stackTraces = false) (sz sa : Nat) (dC : Nat → ClassId) (dI : Nat → Nat → Nat) (cI : ClassId) (h0 ab rc rl ps : Nat) (f : Nat → Int32) (y q : Int32) (hb0 : (y < 0 ∨ nI rc - 1 < y) ∨ (q < 0 ∨ 4 < q)) : vx_Met l yX0_filter wsX0_filter ({ frames := 8, cells := 1, slots := 6, locals := 125 }) (va_Pc [.ref h0, .int y, .int q] (fun U => U.heap.size = sz ∧ rw_XA (fun q => sz ≤ q) sa U U.heap ∧ rw_pre dC dI cI h0 ab rc rl ps f U)) (va_Qv (fun _ : Unit => False) (fun _ _ => False) (fun q => sz ≤ q)) (rw_XC sz) 1 6 (fun q => sz ≤ q) := by
  refine vx_ofW (cc := cX0_filter) (maxL := 3) (ret := none) (by decide) rfl ?_
  intro p e s m args below meth c s₁ B hml hno hv
  obtain ⟨rfl, hsz, hX, hP, hK⟩ := hv
  have hx := B.exec
  have hb := B.bytes
  have hr := B.returns
  have hts := atoms_spec (ws := wsX0_filter) B.pre
  have hown : s.vm.findClass RX0 = some m.cls := findClass_of_methodNamed B.named
  have hlocks := B.notSynchronized
  subst hsz
  have hS : va_S (fun q => s.heap.size ≤ q) s.heap s.heap [] := va_S.rf
  have hP : va_P (dC, dI) rw_cl (rw_W h0 ab cI rc rl ps f) s.heap := hP
  have hl := lv_entry ([.ref h0, .int y, .int q]) (n := 3) (Nat.le_of_ble_eq_true rfl)
  rw [lg_entry_eq]
  generalize (lg_sl ([.ref h0, .int y, .int q]) ++ List.replicate (3 - (lg_sl ([.ref h0, .int y, .int q])).length) Slot.unset).toArray = ls at hl ⊢
  have hl : lv_has ls 3 [(0, .ref h0), (1, .int y), (2, .int q)] := hl
  refine lv_aload_n hx hb dX0_filter_0 rfl (lv_at hl 0 rfl) ?_
  refine lv_iload_n hx hb dX0_filter_1 rfl (lv_at hl 1 rfl) ?_
  by_cases a1 : y < 0 ∨ nI rc - 1 < y
  · refine vx_callv (vx_runV (C := RX0) (As := [.int y]) (rest := []) ⟨hx, hb, hml, hown, hts⟩ (c_X0_requireRow_x l hl9 s.heap.size sa dC dI cI h0 ab rc rl ps f y a1) (cwV 1 hts gX0_filter_X0_requireRow rfl rfl rfl (by decide +kernel) ⟨Nat.le_of_ble_eq_true rfl, Nat.le_of_ble_eq_true rfl⟩) ⟨fun a U g mk q => by obtain ⟨q0, q1, qX, qP, qK⟩ := q; exact ⟨q0, q1, rw_XA.call qX, qP, va_K.moved (u := U) (U := U.calling g mk a) (Vm.Alike.refl U.vm) qK⟩, va_recv hK hP (ci := 0) (q0 := 0) rfl rfl, fun U hU hW => ⟨rfl, by rw [hU], rw_XA.go hX hU hW, by rw [hU]; exact hP, va_K.moved hW.alike hK⟩⟩ rfl rfl hl.1 rfl (lv_room (Nat.le_of_ble_eq_true rfl)) dX0_filter_2 ⟨Nat.le_refl _, Nat.le_refl _⟩) hS (fun q _ h => h) (fun q h => h) (fun q _ h => h) (fun E ce q9 u t9 H1 locs ht hvm hpx hE hz1 hk1 hS hc1 hc2 hc3 => ?_) (fun u t9 H1 locs ht hvm hw hB hz1 hk1 hS => hw.elim)
    exact vx_out (fun x h => (hno x h).elim) hlocks hc1 hc2 hc3 (fun t ht2 ha => ⟨(), trivial, hE, hS.F ht2⟩) hS.2.2 (Nat.le_refl _) (Nat.le_refl _)
  · have b1 := not_or.mp a1
    refine va_csv (W.runV (C := RX0) (As := [.int y]) (rest := []) ⟨hx, hb, hml, hown, hts⟩ (c_X0_requireRow l dC dI cI h0 ab rc rl ps f y b1.1 b1.2) (cwV 1 hts gX0_filter_X0_requireRow rfl rfl rfl (by decide +kernel) ⟨Nat.le_of_ble_eq_true rfl, Nat.le_of_ble_eq_true rfl⟩) ⟨fun a U g mk q => by obtain ⟨q0, qP, qK⟩ := q; exact ⟨q0, qP, va_K.moved (u := U) (U := U.calling g mk a) (Vm.Alike.refl U.vm) qK⟩, va_recv hK hP (ci := 0) (q0 := 0) rfl rfl, fun U hU hW => ⟨rfl, by rw [hU]; exact hP, va_K.moved hW.alike hK⟩⟩ rfl rfl hl.1 rfl (lv_room (Nat.le_of_ble_eq_true rfl)) dX0_filter_2 ⟨Nat.zero_le _, Nat.zero_le _⟩) (fun _ => ?_)
    refine lv_iload_n hx hb dX0_filter_5 rfl (lv_at hl 2 rfl) ?_
    refine vx_callv (vx_runS (As := [.int q]) (rest := []) ⟨hx, hb, hml, hown, hts⟩ (c_X0_requireFilter_x l hl9 s.heap.size sa q (hb0.resolve_left a1)) (va_cwS 1 hts gX0_filter_X0_requireFilter rfl rfl rfl (by decide +kernel) ⟨Nat.le_of_ble_eq_true rfl, Nat.le_of_ble_eq_true rfl⟩) ⟨fun a U g mk q => by obtain ⟨q0, q1, qX⟩ := q; exact ⟨q0, q1, rw_XA.call qX⟩, fun U hU hW => ⟨rfl, by rw [hU], rw_XA.go hX hU hW⟩⟩ rfl rfl hl.1 rfl (lv_room (Nat.le_of_ble_eq_true rfl)) dX0_filter_6 ⟨Nat.le_refl _, Nat.le_refl _⟩) hS (fun q _ h => h) (fun q h => h) (fun q _ h => h) (fun E ce q9 u t9 H1 locs ht hvm hpx hE hz1 hk1 hS hc1 hc2 hc3 => ?_) (fun u t9 H1 locs ht hvm hw hB hz1 hk1 hS => hw.elim)
    exact vx_out (fun x h => (hno x h).elim) hlocks hc1 hc2 hc3 (fun t ht2 ha => ⟨(), trivial, hE, hS.F ht2⟩) hS.2.2 (Nat.le_refl _) (Nat.le_refl _)
set_option maxHeartbeats 4000000 in
set_option maxRecDepth 100000 in
theorem c_X0_plain_x (l : Launch) (hl9 : l.stackTraces = false) (sz sa : Nat) (dC : Nat → ClassId) (dI : Nat → Nat → Nat) (cI : ClassId) (h0 ab rc rl ps : Nat) (f : Nat → Int32) (y q : Int32) (hb0 : (y < 0 ∨ nI rc - 1 < y) ∨ (q < 0 ∨ 4 < q)) : vx_Met l yX0_plain wsX0_plain ({ frames := 8, cells := 1, slots := 6, locals := 125 }) (va_Pc [.ref h0, .int y, .int q] (fun U => U.heap.size = sz ∧ rw_XA (fun q => sz ≤ q) sa U U.heap ∧ rw_pre dC dI cI h0 ab rc rl ps f U)) (va_Qv (fun _ : Unit => False) (fun _ _ => False) (fun q => sz ≤ q)) (rw_XC sz) 1 6 (fun q => sz ≤ q) := by
  refine vx_ofW (cc := cX0_plain) (maxL := 3) (ret := none) (by decide) rfl ?_
  intro p e s m args below meth c s₁ B hml hno hv
  obtain ⟨rfl, hsz, hX, hP, hK⟩ := hv
  have hx := B.exec
  have hb := B.bytes
  have hr := B.returns
  have hts := atoms_spec (ws := wsX0_plain) B.pre
  have hown : s.vm.findClass RX0 = some m.cls := findClass_of_methodNamed B.named
  have hlocks := B.notSynchronized
  subst hsz
  have hS : va_S (fun q => s.heap.size ≤ q) s.heap s.heap [] := va_S.rf
  have hP : va_P (dC, dI) rw_cl (rw_W h0 ab cI rc rl ps f) s.heap := hP
  have hl := lv_entry ([.ref h0, .int y, .int q]) (n := 3) (Nat.le_of_ble_eq_true rfl)
  rw [lg_entry_eq]
  generalize (lg_sl ([.ref h0, .int y, .int q]) ++ List.replicate (3 - (lg_sl ([.ref h0, .int y, .int q])).length) Slot.unset).toArray = ls at hl ⊢
  have hl : lv_has ls 3 [(0, .ref h0), (1, .int y), (2, .int q)] := hl
  refine lv_aload_n hx hb dX0_plain_0 rfl (lv_at hl 0 rfl) ?_
  refine lv_iload_n hx hb dX0_plain_1 rfl (lv_at hl 1 rfl) ?_
  by_cases a1 : y < 0 ∨ nI rc - 1 < y
  · refine vx_callv (vx_runV (C := RX0) (As := [.int y]) (rest := []) ⟨hx, hb, hml, hown, hts⟩ (c_X0_requireRow_x l hl9 s.heap.size sa dC dI cI h0 ab rc rl ps f y a1) (cwV 1 hts gX0_plain_X0_requireRow rfl rfl rfl (by decide +kernel) ⟨Nat.le_of_ble_eq_true rfl, Nat.le_of_ble_eq_true rfl⟩) ⟨fun a U g mk q => by obtain ⟨q0, q1, qX, qP, qK⟩ := q; exact ⟨q0, q1, rw_XA.call qX, qP, va_K.moved (u := U) (U := U.calling g mk a) (Vm.Alike.refl U.vm) qK⟩, va_recv hK hP (ci := 0) (q0 := 0) rfl rfl, fun U hU hW => ⟨rfl, by rw [hU], rw_XA.go hX hU hW, by rw [hU]; exact hP, va_K.moved hW.alike hK⟩⟩ rfl rfl hl.1 rfl (lv_room (Nat.le_of_ble_eq_true rfl)) dX0_plain_2 ⟨Nat.le_refl _, Nat.le_refl _⟩) hS (fun q _ h => h) (fun q h => h) (fun q _ h => h) (fun E ce q9 u t9 H1 locs ht hvm hpx hE hz1 hk1 hS hc1 hc2 hc3 => ?_) (fun u t9 H1 locs ht hvm hw hB hz1 hk1 hS => hw.elim)
    exact vx_out (fun x h => (hno x h).elim) hlocks hc1 hc2 hc3 (fun t ht2 ha => ⟨(), trivial, hE, hS.F ht2⟩) hS.2.2 (Nat.le_refl _) (Nat.le_refl _)
  · have b1 := not_or.mp a1
    refine va_csv (W.runV (C := RX0) (As := [.int y]) (rest := []) ⟨hx, hb, hml, hown, hts⟩ (c_X0_requireRow l dC dI cI h0 ab rc rl ps f y b1.1 b1.2) (cwV 1 hts gX0_plain_X0_requireRow rfl rfl rfl (by decide +kernel) ⟨Nat.le_of_ble_eq_true rfl, Nat.le_of_ble_eq_true rfl⟩) ⟨fun a U g mk q => by obtain ⟨q0, qP, qK⟩ := q; exact ⟨q0, qP, va_K.moved (u := U) (U := U.calling g mk a) (Vm.Alike.refl U.vm) qK⟩, va_recv hK hP (ci := 0) (q0 := 0) rfl rfl, fun U hU hW => ⟨rfl, by rw [hU]; exact hP, va_K.moved hW.alike hK⟩⟩ rfl rfl hl.1 rfl (lv_room (Nat.le_of_ble_eq_true rfl)) dX0_plain_2 ⟨Nat.zero_le _, Nat.zero_le _⟩) (fun _ => ?_)
    refine lv_iload_n hx hb dX0_plain_5 rfl (lv_at hl 2 rfl) ?_
    refine vx_callv (vx_runS (As := [.int q]) (rest := []) ⟨hx, hb, hml, hown, hts⟩ (c_X0_requireFilter_x l hl9 s.heap.size sa q (hb0.resolve_left a1)) (va_cwS 1 hts gX0_plain_X0_requireFilter rfl rfl rfl (by decide +kernel) ⟨Nat.le_of_ble_eq_true rfl, Nat.le_of_ble_eq_true rfl⟩) ⟨fun a U g mk q => by obtain ⟨q0, q1, qX⟩ := q; exact ⟨q0, q1, rw_XA.call qX⟩, fun U hU hW => ⟨rfl, by rw [hU], rw_XA.go hX hU hW⟩⟩ rfl rfl hl.1 rfl (lv_room (Nat.le_of_ble_eq_true rfl)) dX0_plain_6 ⟨Nat.le_refl _, Nat.le_refl _⟩) hS (fun q _ h => h) (fun q h => h) (fun q _ h => h) (fun E ce q9 u t9 H1 locs ht hvm hpx hE hz1 hk1 hS hc1 hc2 hc3 => ?_) (fun u t9 H1 locs ht hvm hw hB hz1 hk1 hS => hw.elim)
    exact vx_out (fun x h => (hno x h).elim) hlocks hc1 hc2 hc3 (fun t ht2 ha => ⟨(), trivial, hE, hS.F ht2⟩) hS.2.2 (Nat.le_refl _) (Nat.le_refl _)
set_option maxHeartbeats 4000000 in
set_option maxRecDepth 100000 in
theorem c_X0_undo_x (l : Launch) (hl9 : l.stackTraces = false) (sz sa : Nat) (dC : Nat → ClassId) (dI : Nat → Nat → Nat) (cI : ClassId) (h0 ab rc rl ps : Nat) (f : Nat → Int32) (n : Int32) (hb0 : n < 0 ∨ 390624 < n) : vx_Met l yX0_undo wsX0_undo ({ frames := 7, cells := 1, slots := 6, locals := 104 }) (va_Pc [.ref h0, .int n] (fun U => U.heap.size = sz ∧ rw_XA (fun q => sz ≤ q) sa U U.heap ∧ rw_pre dC dI cI h0 ab rc rl ps f U)) (va_Qv (fun _ : Unit => False) (fun _ _ => False) (fun q => sz ≤ q)) (rw_XC sz) 1 6 (fun q => sz ≤ q) := by
  refine vx_ofW (cc := cX0_undo) (maxL := 5) (ret := none) (by decide) rfl ?_
  intro p e s m args below meth c s₁ B hml hno hv
  obtain ⟨rfl, hsz, hX, hP, hK⟩ := hv
  have hx := B.exec
  have hb := B.bytes
  have hr := B.returns
  have hts := atoms_spec (ws := wsX0_undo) B.pre
  have hown : s.vm.findClass RX0 = some m.cls := findClass_of_methodNamed B.named
  have hlocks := B.notSynchronized
  subst hsz
  have hS : va_S (fun q => s.heap.size ≤ q) s.heap s.heap [] := va_S.rf
  have hP : va_P (dC, dI) rw_cl (rw_W h0 ab cI rc rl ps f) s.heap := hP
  have hl := lv_entry ([.ref h0, .int n]) (n := 5) (Nat.le_of_ble_eq_true rfl)
  rw [lg_entry_eq]
  generalize (lg_sl ([.ref h0, .int n]) ++ List.replicate (5 - (lg_sl ([.ref h0, .int n])).length) Slot.unset).toArray = ls at hl ⊢
  have hl : lv_has ls 5 [(0, .ref h0), (1, .int n)] := hl
  refine lv_iload_n hx hb dX0_undo_0 rfl (lv_at hl 1 rfl) ?_
  refine lv_iconst (v := 0) hx hb dX0_undo_1 (by decide) ?_
  refine lv_ldc hx hb hown (hts (.constant RX0 54 (390624)) (by decide +kernel)) dX0_undo_2 ?_
  refine vx_callv (vx_runS (As := [.int n, .int 0, .int 390624]) (rest := []) ⟨hx, hb, hml, hown, hts⟩ (c_X0_requireWithin_x l hl9 s.heap.size sa n 0 390624 hb0) (va_cwS 3 hts gX0_undo_X0_requireWithin rfl rfl rfl (by decide +kernel) ⟨Nat.le_of_ble_eq_true rfl, Nat.le_of_ble_eq_true rfl⟩) ⟨fun a U g mk q => by obtain ⟨q0, q1, qX⟩ := q; exact ⟨q0, q1, rw_XA.call qX⟩, fun U hU hW => ⟨rfl, by rw [hU], rw_XA.go hX hU hW⟩⟩ rfl rfl hl.1 rfl (lv_room (Nat.le_of_ble_eq_true rfl)) dX0_undo_4 ⟨Nat.le_refl _, Nat.le_refl _⟩) hS (fun q _ h => h) (fun q h => h) (fun q _ h => h) (fun E ce q9 u t9 H1 locs ht hvm hpx hE hz1 hk1 hS hc1 hc2 hc3 => ?_) (fun u t9 H1 locs ht hvm hw hB hz1 hk1 hS => hw.elim)
  exact vx_out (fun x h => (hno x h).elim) hlocks hc1 hc2 hc3 (fun t ht2 ha => ⟨(), trivial, hE, hS.F ht2⟩) hS.2.2 (Nat.le_refl _) (Nat.le_refl _)
set_option maxHeartbeats 4000000 in
set_option maxRecDepth 100000 in
theorem c_X0_open_x (l : Launch) (hl9 : l.stackTraces = false) (sz sa : Nat) (dC : Nat → ClassId) (dI : Nat → Nat → Nat) (cI : ClassId) (h0 ab rc rl ps : Nat) (f : Nat → Int32) (h n z : Int32) (hb0 : ¬ rf_op h n z) : vx_Met l yX0_open wsX0_open ({ frames := 7, cells := 1, slots := 6, locals := 104 }) (va_Pc [.ref h0, .int h, .int n, .int z] (fun U => U.heap.size = sz ∧ rw_XA (fun q => sz ≤ q) sa U U.heap ∧ rw_pre dC dI cI h0 ab rc rl ps f U)) (va_Qv (fun _ : Unit => False) (fun _ _ => False) (fun q => sz ≤ q)) (rw_XC sz) 1 6 (fun q => sz ≤ q) := by
  refine vx_ofW (cc := cX0_open) (maxL := 4) (ret := none) (by decide) rfl ?_
  intro p e s m args below meth c s₁ B hml hno hv
  obtain ⟨rfl, hsz, hX, hP, hK⟩ := hv
  have hx := B.exec
  have hb := B.bytes
  have hr := B.returns
  have hts := atoms_spec (ws := wsX0_open) B.pre
  have hown : s.vm.findClass RX0 = some m.cls := findClass_of_methodNamed B.named
  have hlocks := B.notSynchronized
  subst hsz
  have hS : va_S (fun q => s.heap.size ≤ q) s.heap s.heap [] := va_S.rf
  have hP : va_P (dC, dI) rw_cl (rw_W h0 ab cI rc rl ps f) s.heap := hP
  have hl := lv_entry ([.ref h0, .int h, .int n, .int z]) (n := 4) (Nat.le_of_ble_eq_true rfl)
  rw [lg_entry_eq]
  generalize (lg_sl ([.ref h0, .int h, .int n, .int z]) ++ List.replicate (4 - (lg_sl ([.ref h0, .int h, .int n, .int z])).length) Slot.unset).toArray = ls at hl ⊢
  have hl : lv_has ls 4 [(0, .ref h0), (1, .int h), (2, .int n), (3, .int z)] := hl
  refine lv_iload_n hx hb dX0_open_0 rfl (lv_at hl 1 rfl) ?_
  refine lv_iconst (v := 1) hx hb dX0_open_1 (by decide) ?_
  refine lv_sipush (v := 4096) hx hb dX0_open_2 (by decide) ?_
  by_cases a1 : h < 1 ∨ 4096 < h
  · refine vx_callv (vx_runS (As := [.int h, .int 1, .int 4096]) (rest := []) ⟨hx, hb, hml, hown, hts⟩ (c_X0_requireWithin_x l hl9 s.heap.size sa h 1 4096 a1) (va_cwS 3 hts gX0_open_X0_requireWithin rfl rfl rfl (by decide +kernel) ⟨Nat.le_of_ble_eq_true rfl, Nat.le_of_ble_eq_true rfl⟩) ⟨fun a U g mk q => by obtain ⟨q0, q1, qX⟩ := q; exact ⟨q0, q1, rw_XA.call qX⟩, fun U hU hW => ⟨rfl, by rw [hU], rw_XA.go hX hU hW⟩⟩ rfl rfl hl.1 rfl (lv_room (Nat.le_of_ble_eq_true rfl)) dX0_open_5 ⟨Nat.le_refl _, Nat.le_refl _⟩) hS (fun q _ h => h) (fun q h => h) (fun q _ h => h) (fun E ce q9 u t9 H1 locs ht hvm hpx hE hz1 hk1 hS hc1 hc2 hc3 => ?_) (fun u t9 H1 locs ht hvm hw hB hz1 hk1 hS => hw.elim)
    exact vx_out (fun x h => (hno x h).elim) hlocks hc1 hc2 hc3 (fun t ht2 ha => ⟨(), trivial, hE, hS.F ht2⟩) hS.2.2 (Nat.le_refl _) (Nat.le_refl _)
  · have b1 := not_or.mp a1
    refine va_csv (W.runS (As := [.int h, .int 1, .int 4096]) (rest := []) ⟨hx, hb, hml, hown, hts⟩ (c_X0_requireWithin l h 1 4096 b1.1 b1.2) (va_cwS 3 hts gX0_open_X0_requireWithin rfl rfl rfl (by decide +kernel) ⟨Nat.le_of_ble_eq_true rfl, Nat.le_of_ble_eq_true rfl⟩) ⟨fun _ _ _ _ q => q, fun U hU hW => ⟨rfl, trivial⟩⟩ rfl rfl hl.1 rfl (lv_room (Nat.le_of_ble_eq_true rfl)) dX0_open_5 ⟨Nat.zero_le _, Nat.zero_le _⟩) (fun _ => ?_)
    refine lv_iload_n hx hb dX0_open_8 rfl (lv_at hl 2 rfl) ?_
    refine lv_iconst (v := 1) hx hb dX0_open_9 (by decide) ?_
    refine lv_sipush (v := 4096) hx hb dX0_open_10 (by decide) ?_
    by_cases a2 : n < 1 ∨ 4096 < n
    · refine vx_callv (vx_runS (As := [.int n, .int 1, .int 4096]) (rest := []) ⟨hx, hb, hml, hown, hts⟩ (c_X0_requireWithin_x l hl9 s.heap.size sa n 1 4096 a2) (va_cwS 3 hts gX0_open_X0_requireWithin rfl rfl rfl (by decide +kernel) ⟨Nat.le_of_ble_eq_true rfl, Nat.le_of_ble_eq_true rfl⟩) ⟨fun a U g mk q => by obtain ⟨q0, q1, qX⟩ := q; exact ⟨q0, q1, rw_XA.call qX⟩, fun U hU hW => ⟨rfl, by rw [hU], rw_XA.go hX hU hW⟩⟩ rfl rfl hl.1 rfl (lv_room (Nat.le_of_ble_eq_true rfl)) dX0_open_13 ⟨Nat.le_refl _, Nat.le_refl _⟩) hS (fun q _ h => h) (fun q h => h) (fun q _ h => h) (fun E ce q9 u t9 H1 locs ht hvm hpx hE hz1 hk1 hS hc1 hc2 hc3 => ?_) (fun u t9 H1 locs ht hvm hw hB hz1 hk1 hS => hw.elim)
      exact vx_out (fun x h => (hno x h).elim) hlocks hc1 hc2 hc3 (fun t ht2 ha => ⟨(), trivial, hE, hS.F ht2⟩) hS.2.2 (Nat.le_refl _) (Nat.le_refl _)
    · have b2 := not_or.mp a2
      refine va_csv (W.runS (As := [.int n, .int 1, .int 4096]) (rest := []) ⟨hx, hb, hml, hown, hts⟩ (c_X0_requireWithin l n 1 4096 b2.1 b2.2) (va_cwS 3 hts gX0_open_X0_requireWithin rfl rfl rfl (by decide +kernel) ⟨Nat.le_of_ble_eq_true rfl, Nat.le_of_ble_eq_true rfl⟩) ⟨fun _ _ _ _ q => q, fun U hU hW => ⟨rfl, trivial⟩⟩ rfl rfl hl.1 rfl (lv_room (Nat.le_of_ble_eq_true rfl)) dX0_open_13 ⟨Nat.zero_le _, Nat.zero_le _⟩) (fun _ => ?_)
      refine lv_iload_n hx hb dX0_open_16 rfl (lv_at hl 1 rfl) ?_
      refine lv_iload_n hx hb dX0_open_17 rfl (lv_at hl 2 rfl) ?_
      refine lv_imul hx hb dX0_open_18 ?_
      refine lv_iconst (v := 1) hx hb dX0_open_19 (by decide) ?_
      refine lv_sipush (v := 4096) hx hb dX0_open_20 (by decide) ?_
      by_cases a3 : (h * n) < 1 ∨ 4096 < (h * n)
      · refine vx_callv (vx_runS (As := [.int (h * n), .int 1, .int 4096]) (rest := []) ⟨hx, hb, hml, hown, hts⟩ (c_X0_requireWithin_x l hl9 s.heap.size sa (h * n) 1 4096 a3) (va_cwS 3 hts gX0_open_X0_requireWithin rfl rfl rfl (by decide +kernel) ⟨Nat.le_of_ble_eq_true rfl, Nat.le_of_ble_eq_true rfl⟩) ⟨fun a U g mk q => by obtain ⟨q0, q1, qX⟩ := q; exact ⟨q0, q1, rw_XA.call qX⟩, fun U hU hW => ⟨rfl, by rw [hU], rw_XA.go hX hU hW⟩⟩ rfl rfl hl.1 rfl (lv_room (Nat.le_of_ble_eq_true rfl)) dX0_open_23 ⟨Nat.le_refl _, Nat.le_refl _⟩) hS (fun q _ h => h) (fun q h => h) (fun q _ h => h) (fun E ce q9 u t9 H1 locs ht hvm hpx hE hz1 hk1 hS hc1 hc2 hc3 => ?_) (fun u t9 H1 locs ht hvm hw hB hz1 hk1 hS => hw.elim)
        exact vx_out (fun x h => (hno x h).elim) hlocks hc1 hc2 hc3 (fun t ht2 ha => ⟨(), trivial, hE, hS.F ht2⟩) hS.2.2 (Nat.le_refl _) (Nat.le_refl _)
      · have b3 := not_or.mp a3
        refine va_csv (W.runS (As := [.int (h * n), .int 1, .int 4096]) (rest := []) ⟨hx, hb, hml, hown, hts⟩ (c_X0_requireWithin l (h * n) 1 4096 b3.1 b3.2) (va_cwS 3 hts gX0_open_X0_requireWithin rfl rfl rfl (by decide +kernel) ⟨Nat.le_of_ble_eq_true rfl, Nat.le_of_ble_eq_true rfl⟩) ⟨fun _ _ _ _ q => q, fun U hU hW => ⟨rfl, trivial⟩⟩ rfl rfl hl.1 rfl (lv_room (Nat.le_of_ble_eq_true rfl)) dX0_open_23 ⟨Nat.zero_le _, Nat.zero_le _⟩) (fun _ => ?_)
        refine lv_iload_n hx hb dX0_open_26 rfl (lv_at hl 3 rfl) ?_
        refine lv_iconst (v := 1) hx hb dX0_open_27 (by decide) ?_
        refine lv_bipush (v := 8) hx hb dX0_open_28 (by decide) ?_
        by_cases a4 : z < 1 ∨ 8 < z
        · refine vx_callv (vx_runS (As := [.int z, .int 1, .int 8]) (rest := []) ⟨hx, hb, hml, hown, hts⟩ (c_X0_requireWithin_x l hl9 s.heap.size sa z 1 8 a4) (va_cwS 3 hts gX0_open_X0_requireWithin rfl rfl rfl (by decide +kernel) ⟨Nat.le_of_ble_eq_true rfl, Nat.le_of_ble_eq_true rfl⟩) ⟨fun a U g mk q => by obtain ⟨q0, q1, qX⟩ := q; exact ⟨q0, q1, rw_XA.call qX⟩, fun U hU hW => ⟨rfl, by rw [hU], rw_XA.go hX hU hW⟩⟩ rfl rfl hl.1 rfl (lv_room (Nat.le_of_ble_eq_true rfl)) dX0_open_30 ⟨Nat.le_refl _, Nat.le_refl _⟩) hS (fun q _ h => h) (fun q h => h) (fun q _ h => h) (fun E ce q9 u t9 H1 locs ht hvm hpx hE hz1 hk1 hS hc1 hc2 hc3 => ?_) (fun u t9 H1 locs ht hvm hw hB hz1 hk1 hS => hw.elim)
          exact vx_out (fun x h => (hno x h).elim) hlocks hc1 hc2 hc3 (fun t ht2 ha => ⟨(), trivial, hE, hS.F ht2⟩) hS.2.2 (Nat.le_refl _) (Nat.le_refl _)
        · have b4 := not_or.mp a4
          refine va_csv (W.runS (As := [.int z, .int 1, .int 8]) (rest := []) ⟨hx, hb, hml, hown, hts⟩ (c_X0_requireWithin l z 1 8 b4.1 b4.2) (va_cwS 3 hts gX0_open_X0_requireWithin rfl rfl rfl (by decide +kernel) ⟨Nat.le_of_ble_eq_true rfl, Nat.le_of_ble_eq_true rfl⟩) ⟨fun _ _ _ _ q => q, fun U hU hW => ⟨rfl, trivial⟩⟩ rfl rfl hl.1 rfl (lv_room (Nat.le_of_ble_eq_true rfl)) dX0_open_30 ⟨Nat.zero_le _, Nat.zero_le _⟩) (fun _ => ?_)
          exact absurd ⟨b1.1, b2.1, b1.2, b2.2, b3.2, b4.1, b4.2⟩ hb0
set_option maxHeartbeats 4000000 in
set_option maxRecDepth 100000 in
theorem c_X0_pass_x (l : Launch) (hl9 : l.stackTraces = false) (sz sa : Nat) (dC : Nat → ClassId) (dI : Nat → Nat → Nat) (cI : ClassId) (h0 ab rc rl ps : Nat) (f : Nat → Int32) (k w h b : Int32) (hb0 : rf_pw k w h) : vx_Met l yX0_pass wsX0_pass ({ frames := 7, cells := 1, slots := 6, locals := 104 }) (va_Pc [.ref h0, .int k, .int w, .int h, .int b] (fun U => U.heap.size = sz ∧ rw_XA (fun q => sz ≤ q) sa U U.heap ∧ rw_pre dC dI cI h0 ab rc rl ps f U)) (va_Qi (fun (_ : Int32) (_ : Unit) => False) (fun _ _ => False) (fun q => sz ≤ q)) (rw_XC sz) 1 6 (fun q => sz ≤ q) := by
  refine vx_ofW (cc := cX0_pass) (maxL := 7) (ret := (some .int)) (by decide) rfl ?_
  intro p e s m args below meth c s₁ B hml hno hv
  obtain ⟨rfl, hsz, hX, hP, hK⟩ := hv
  have hx := B.exec
  have hb := B.bytes
  have hr := B.returns
  have hts := atoms_spec (ws := wsX0_pass) B.pre
  have hown : s.vm.findClass RX0 = some m.cls := findClass_of_methodNamed B.named
  have hlocks := B.notSynchronized
  subst hsz
  have hS : va_S (fun q => s.heap.size ≤ q) s.heap s.heap [] := va_S.rf
  have hP : va_P (dC, dI) rw_cl (rw_W h0 ab cI rc rl ps f) s.heap := hP
  have hl := lv_entry ([.ref h0, .int k, .int w, .int h, .int b]) (n := 7) (Nat.le_of_ble_eq_true rfl)
  rw [lg_entry_eq]
  generalize (lg_sl ([.ref h0, .int k, .int w, .int h, .int b]) ++ List.replicate (7 - (lg_sl ([.ref h0, .int k, .int w, .int h, .int b])).length) Slot.unset).toArray = ls at hl ⊢
  have hl : lv_has ls 7 [(0, .ref h0), (1, .int k), (2, .int w), (3, .int h), (4, .int b)] := hl
  refine lv_iload_n hx hb dX0_pass_0 rfl (lv_at hl 1 rfl) ?_
  refine lv_iconst (v := 0) hx hb dX0_pass_1 (by decide) ?_
  refine lv_bipush (v := 6) hx hb dX0_pass_2 (by decide) ?_
  by_cases a1 : k < 0 ∨ 6 < k
  · refine vx_callv (vx_runS (As := [.int k, .int 0, .int 6]) (rest := []) ⟨hx, hb, hml, hown, hts⟩ (c_X0_requireWithin_x l hl9 s.heap.size sa k 0 6 a1) (va_cwS 3 hts gX0_pass_X0_requireWithin rfl rfl rfl (by decide +kernel) ⟨Nat.le_of_ble_eq_true rfl, Nat.le_of_ble_eq_true rfl⟩) ⟨fun a U g mk q => by obtain ⟨q0, q1, qX⟩ := q; exact ⟨q0, q1, rw_XA.call qX⟩, fun U hU hW => ⟨rfl, by rw [hU], rw_XA.go hX hU hW⟩⟩ rfl rfl hl.1 rfl (lv_room (Nat.le_of_ble_eq_true rfl)) dX0_pass_4 ⟨Nat.le_refl _, Nat.le_refl _⟩) hS (fun q _ h => h) (fun q h => h) (fun q _ h => h) (fun E ce q9 u t9 H1 locs ht hvm hpx hE hz1 hk1 hS hc1 hc2 hc3 => ?_) (fun u t9 H1 locs ht hvm hw hB hz1 hk1 hS => hw.elim)
    exact vx_out (fun x h => (hno x h).elim) hlocks hc1 hc2 hc3 (fun t ht2 ha => ⟨(), trivial, hE, hS.F ht2⟩) hS.2.2 (Nat.le_refl _) (Nat.le_refl _)
  · have b1 := not_or.mp a1
    refine va_csv (W.runS (As := [.int k, .int 0, .int 6]) (rest := []) ⟨hx, hb, hml, hown, hts⟩ (c_X0_requireWithin l k 0 6 b1.1 b1.2) (va_cwS 3 hts gX0_pass_X0_requireWithin rfl rfl rfl (by decide +kernel) ⟨Nat.le_of_ble_eq_true rfl, Nat.le_of_ble_eq_true rfl⟩) ⟨fun _ _ _ _ q => q, fun U hU hW => ⟨rfl, trivial⟩⟩ rfl rfl hl.1 rfl (lv_room (Nat.le_of_ble_eq_true rfl)) dX0_pass_4 ⟨Nat.zero_le _, Nat.zero_le _⟩) (fun _ => ?_)
    refine lv_iload_n hx hb dX0_pass_7 rfl (lv_at hl 2 rfl) ?_
    refine lv_iconst (v := 1) hx hb dX0_pass_8 (by decide) ?_
    refine lv_ldc hx hb hown (hts (.constant RX0 61 (100000)) (by decide +kernel)) dX0_pass_9 ?_
    by_cases a2 : w < 1 ∨ 100000 < w
    · refine vx_callv (vx_runS (As := [.int w, .int 1, .int 100000]) (rest := []) ⟨hx, hb, hml, hown, hts⟩ (c_X0_requireWithin_x l hl9 s.heap.size sa w 1 100000 a2) (va_cwS 3 hts gX0_pass_X0_requireWithin rfl rfl rfl (by decide +kernel) ⟨Nat.le_of_ble_eq_true rfl, Nat.le_of_ble_eq_true rfl⟩) ⟨fun a U g mk q => by obtain ⟨q0, q1, qX⟩ := q; exact ⟨q0, q1, rw_XA.call qX⟩, fun U hU hW => ⟨rfl, by rw [hU], rw_XA.go hX hU hW⟩⟩ rfl rfl hl.1 rfl (lv_room (Nat.le_of_ble_eq_true rfl)) dX0_pass_11 ⟨Nat.le_refl _, Nat.le_refl _⟩) hS (fun q _ h => h) (fun q h => h) (fun q _ h => h) (fun E ce q9 u t9 H1 locs ht hvm hpx hE hz1 hk1 hS hc1 hc2 hc3 => ?_) (fun u t9 H1 locs ht hvm hw hB hz1 hk1 hS => hw.elim)
      exact vx_out (fun x h => (hno x h).elim) hlocks hc1 hc2 hc3 (fun t ht2 ha => ⟨(), trivial, hE, hS.F ht2⟩) hS.2.2 (Nat.le_refl _) (Nat.le_refl _)
    · have b2 := not_or.mp a2
      refine va_csv (W.runS (As := [.int w, .int 1, .int 100000]) (rest := []) ⟨hx, hb, hml, hown, hts⟩ (c_X0_requireWithin l w 1 100000 b2.1 b2.2) (va_cwS 3 hts gX0_pass_X0_requireWithin rfl rfl rfl (by decide +kernel) ⟨Nat.le_of_ble_eq_true rfl, Nat.le_of_ble_eq_true rfl⟩) ⟨fun _ _ _ _ q => q, fun U hU hW => ⟨rfl, trivial⟩⟩ rfl rfl hl.1 rfl (lv_room (Nat.le_of_ble_eq_true rfl)) dX0_pass_11 ⟨Nat.zero_le _, Nat.zero_le _⟩) (fun _ => ?_)
      refine lv_iload_n hx hb dX0_pass_14 rfl (lv_at hl 3 rfl) ?_
      refine lv_iconst (v := 1) hx hb dX0_pass_15 (by decide) ?_
      refine lv_ldc hx hb hown (hts (.constant RX0 61 (100000)) (by decide +kernel)) dX0_pass_16 ?_
      by_cases a3 : h < 1 ∨ 100000 < h
      · refine vx_callv (vx_runS (As := [.int h, .int 1, .int 100000]) (rest := []) ⟨hx, hb, hml, hown, hts⟩ (c_X0_requireWithin_x l hl9 s.heap.size sa h 1 100000 a3) (va_cwS 3 hts gX0_pass_X0_requireWithin rfl rfl rfl (by decide +kernel) ⟨Nat.le_of_ble_eq_true rfl, Nat.le_of_ble_eq_true rfl⟩) ⟨fun a U g mk q => by obtain ⟨q0, q1, qX⟩ := q; exact ⟨q0, q1, rw_XA.call qX⟩, fun U hU hW => ⟨rfl, by rw [hU], rw_XA.go hX hU hW⟩⟩ rfl rfl hl.1 rfl (lv_room (Nat.le_of_ble_eq_true rfl)) dX0_pass_18 ⟨Nat.le_refl _, Nat.le_refl _⟩) hS (fun q _ h => h) (fun q h => h) (fun q _ h => h) (fun E ce q9 u t9 H1 locs ht hvm hpx hE hz1 hk1 hS hc1 hc2 hc3 => ?_) (fun u t9 H1 locs ht hvm hw hB hz1 hk1 hS => hw.elim)
        exact vx_out (fun x h => (hno x h).elim) hlocks hc1 hc2 hc3 (fun t ht2 ha => ⟨(), trivial, hE, hS.F ht2⟩) hS.2.2 (Nat.le_refl _) (Nat.le_refl _)
      · have b3 := not_or.mp a3
        refine va_csv (W.runS (As := [.int h, .int 1, .int 100000]) (rest := []) ⟨hx, hb, hml, hown, hts⟩ (c_X0_requireWithin l h 1 100000 b3.1 b3.2) (va_cwS 3 hts gX0_pass_X0_requireWithin rfl rfl rfl (by decide +kernel) ⟨Nat.le_of_ble_eq_true rfl, Nat.le_of_ble_eq_true rfl⟩) ⟨fun _ _ _ _ q => q, fun U hU hW => ⟨rfl, trivial⟩⟩ rfl rfl hl.1 rfl (lv_room (Nat.le_of_ble_eq_true rfl)) dX0_pass_18 ⟨Nat.zero_le _, Nat.zero_le _⟩) (fun _ => ?_)
        exact absurd hb0 (by rintro (z | z | z | z | z | z); exact b1.1 z; exact b1.2 z; exact b2.1 z; exact b2.2 z; exact b3.1 z; exact b3.2 z)
set_option maxHeartbeats 4000000 in
set_option maxRecDepth 100000 in
theorem c_X0_passOf_x (l : Launch) (hl9 : l.stackTraces = false) (sz sa : Nat) (dC : Nat → ClassId) (dI : Nat → Nat → Nat) (cI : ClassId) (h0 ab rc rl ps : Nat) (f : Nat → Int32) (x y : Int32) (hb0 : rf_xy x y) : vx_Met l yX0_passOf wsX0_passOf ({ frames := 7, cells := 1, slots := 6, locals := 104 }) (va_Pc [.ref h0, .int x, .int y] (fun U => U.heap.size = sz ∧ rw_XA (fun q => sz ≤ q) sa U U.heap ∧ rw_pre dC dI cI h0 ab rc rl ps f U)) (va_Qi (fun (_ : Int32) (_ : Unit) => False) (fun _ _ => False) (fun q => sz ≤ q)) (rw_XC sz) 1 6 (fun q => sz ≤ q) := by
  refine vx_ofW (cc := cX0_passOf) (maxL := 4) (ret := (some .int)) (by decide) rfl ?_
  intro p e s m args below meth c s₁ B hml hno hv
  obtain ⟨rfl, hsz, hX, hP, hK⟩ := hv
  have hx := B.exec
  have hb := B.bytes
  have hr := B.returns
  have hts := atoms_spec (ws := wsX0_passOf) B.pre
  have hown : s.vm.findClass RX0 = some m.cls := findClass_of_methodNamed B.named
  have hlocks := B.notSynchronized
  subst hsz
  have hS : va_S (fun q => s.heap.size ≤ q) s.heap s.heap [] := va_S.rf
  have hP : va_P (dC, dI) rw_cl (rw_W h0 ab cI rc rl ps f) s.heap := hP
  have hl := lv_entry ([.ref h0, .int x, .int y]) (n := 4) (Nat.le_of_ble_eq_true rfl)
  rw [lg_entry_eq]
  generalize (lg_sl ([.ref h0, .int x, .int y]) ++ List.replicate (4 - (lg_sl ([.ref h0, .int x, .int y])).length) Slot.unset).toArray = ls at hl ⊢
  have hl : lv_has ls 4 [(0, .ref h0), (1, .int x), (2, .int y)] := hl
  refine lv_iload_n hx hb dX0_passOf_0 rfl (lv_at hl 1 rfl) ?_
  refine lv_iconst (v := 0) hx hb dX0_passOf_1 (by decide) ?_
  refine lv_ldc hx hb hown (hts (.constant RX0 78 (99999)) (by decide +kernel)) dX0_passOf_2 ?_
  by_cases a1 : x < 0 ∨ 99999 < x
  · refine vx_callv (vx_runS (As := [.int x, .int 0, .int 99999]) (rest := []) ⟨hx, hb, hml, hown, hts⟩ (c_X0_requireWithin_x l hl9 s.heap.size sa x 0 99999 a1) (va_cwS 3 hts gX0_passOf_X0_requireWithin rfl rfl rfl (by decide +kernel) ⟨Nat.le_of_ble_eq_true rfl, Nat.le_of_ble_eq_true rfl⟩) ⟨fun a U g mk q => by obtain ⟨q0, q1, qX⟩ := q; exact ⟨q0, q1, rw_XA.call qX⟩, fun U hU hW => ⟨rfl, by rw [hU], rw_XA.go hX hU hW⟩⟩ rfl rfl hl.1 rfl (lv_room (Nat.le_of_ble_eq_true rfl)) dX0_passOf_4 ⟨Nat.le_refl _, Nat.le_refl _⟩) hS (fun q _ h => h) (fun q h => h) (fun q _ h => h) (fun E ce q9 u t9 H1 locs ht hvm hpx hE hz1 hk1 hS hc1 hc2 hc3 => ?_) (fun u t9 H1 locs ht hvm hw hB hz1 hk1 hS => hw.elim)
    exact vx_out (fun x h => (hno x h).elim) hlocks hc1 hc2 hc3 (fun t ht2 ha => ⟨(), trivial, hE, hS.F ht2⟩) hS.2.2 (Nat.le_refl _) (Nat.le_refl _)
  · have b1 := not_or.mp a1
    refine va_csv (W.runS (As := [.int x, .int 0, .int 99999]) (rest := []) ⟨hx, hb, hml, hown, hts⟩ (c_X0_requireWithin l x 0 99999 b1.1 b1.2) (va_cwS 3 hts gX0_passOf_X0_requireWithin rfl rfl rfl (by decide +kernel) ⟨Nat.le_of_ble_eq_true rfl, Nat.le_of_ble_eq_true rfl⟩) ⟨fun _ _ _ _ q => q, fun U hU hW => ⟨rfl, trivial⟩⟩ rfl rfl hl.1 rfl (lv_room (Nat.le_of_ble_eq_true rfl)) dX0_passOf_4 ⟨Nat.zero_le _, Nat.zero_le _⟩) (fun _ => ?_)
    refine lv_iload_n hx hb dX0_passOf_7 rfl (lv_at hl 2 rfl) ?_
    refine lv_iconst (v := 0) hx hb dX0_passOf_8 (by decide) ?_
    refine lv_ldc hx hb hown (hts (.constant RX0 78 (99999)) (by decide +kernel)) dX0_passOf_9 ?_
    by_cases a2 : y < 0 ∨ 99999 < y
    · refine vx_callv (vx_runS (As := [.int y, .int 0, .int 99999]) (rest := []) ⟨hx, hb, hml, hown, hts⟩ (c_X0_requireWithin_x l hl9 s.heap.size sa y 0 99999 a2) (va_cwS 3 hts gX0_passOf_X0_requireWithin rfl rfl rfl (by decide +kernel) ⟨Nat.le_of_ble_eq_true rfl, Nat.le_of_ble_eq_true rfl⟩) ⟨fun a U g mk q => by obtain ⟨q0, q1, qX⟩ := q; exact ⟨q0, q1, rw_XA.call qX⟩, fun U hU hW => ⟨rfl, by rw [hU], rw_XA.go hX hU hW⟩⟩ rfl rfl hl.1 rfl (lv_room (Nat.le_of_ble_eq_true rfl)) dX0_passOf_11 ⟨Nat.le_refl _, Nat.le_refl _⟩) hS (fun q _ h => h) (fun q h => h) (fun q _ h => h) (fun E ce q9 u t9 H1 locs ht hvm hpx hE hz1 hk1 hS hc1 hc2 hc3 => ?_) (fun u t9 H1 locs ht hvm hw hB hz1 hk1 hS => hw.elim)
      exact vx_out (fun x h => (hno x h).elim) hlocks hc1 hc2 hc3 (fun t ht2 ha => ⟨(), trivial, hE, hS.F ht2⟩) hS.2.2 (Nat.le_refl _) (Nat.le_refl _)
    · have b2 := not_or.mp a2
      refine va_csv (W.runS (As := [.int y, .int 0, .int 99999]) (rest := []) ⟨hx, hb, hml, hown, hts⟩ (c_X0_requireWithin l y 0 99999 b2.1 b2.2) (va_cwS 3 hts gX0_passOf_X0_requireWithin rfl rfl rfl (by decide +kernel) ⟨Nat.le_of_ble_eq_true rfl, Nat.le_of_ble_eq_true rfl⟩) ⟨fun _ _ _ _ q => q, fun U hU hW => ⟨rfl, trivial⟩⟩ rfl rfl hl.1 rfl (lv_room (Nat.le_of_ble_eq_true rfl)) dX0_passOf_11 ⟨Nat.zero_le _, Nat.zero_le _⟩) (fun _ => ?_)
      exact absurd hb0 (by rintro (z | z | z | z); exact b1.1 z; exact b1.2 z; exact b2.1 z; exact b2.2 z)
end
section
def RL : String := "RowFiltersLaw"
abbrev cL_open : ByteArray := method_3_code
def yL_open : MethodName := ⟨RL, "open", "(LRowFilters;III)I"⟩
abbrev cL_set : ByteArray := method_4_code
def yL_set : MethodName := ⟨RL, "set", "(LRowFilters;III[J)I"⟩
abbrev cL_get : ByteArray := method_5_code
def yL_get : MethodName := ⟨RL, "get", "(LRowFilters;II[J)I"⟩
abbrev cL_filter : ByteArray := method_6_code
def yL_filter : MethodName := ⟨RL, "filter", "(LRowFilters;II)I"⟩
abbrev cL_plain : ByteArray := method_7_code
def yL_plain : MethodName := ⟨RL, "plain", "(LRowFilters;II)I"⟩
abbrev cL_undo : ByteArray := method_8_code
def yL_undo : MethodName := ⟨RL, "undo", "(LRowFilters;I)I"⟩
abbrev cL_pass : ByteArray := method_9_code
def yL_pass : MethodName := ⟨RL, "pass", "(LRowFilters;IIIZ[J)I"⟩
abbrev cL_passOf : ByteArray := method_10_code
def yL_passOf : MethodName := ⟨RL, "passOf", "(LRowFilters;II[J)I"⟩
def wsL_open : List Cond := .codeWith yL_open cL_open 5 (some .int) [(0, 7, 10, 13)] :: ([.classLink RL 13 "java/lang/IllegalArgumentException", .methodLink RL 7 yX0_open, .instanceMethod yX0_open, .selects RX0 yX0_open yX0_open, .initialized RX0, .code yX0_open cX0_open 4 none, .fieldLink RX0 13 "RowFilters" "rowCount" "I", .fieldLink RX0 17 "RowFilters" "rowLength" "I", .fieldLink RX0 20 "RowFilters" "pointSize" "I", .fieldLink RX0 9 "RowFilters" "bytes" "[I", .methodLink RX0 23 yX0_requireWithin, .static yX0_requireWithin, .code yX0_requireWithin cX0_requireWithin 3 none, .classLink RX0 94 "java/lang/IllegalArgumentException", .initialized "java/lang/IllegalArgumentException", .methodLink RX0 27 yJ7_fill_53178, .static yJ7_fill_53178, .initialized RJ7, .code yJ7_fill_53178 cJ7_fill_53178 4 none] ++ wsX00 ++ (vx_atS RX0 98 "java/lang/IllegalArgumentException" ["java/lang/RuntimeException", "java/lang/Exception"]).filter goodWord)
def wsL_set : List Cond := .codeWith yL_set cL_set 6 (some .int) [(0, 12, 15, 13)] :: ([.classLink RL 13 "java/lang/IllegalArgumentException", .methodLink RL 15 yX0_set, .instanceMethod yX0_set, .selects RX0 yX0_set yX0_set, .initialized RX0, .code yX0_set cX0_set 6 (some .int), .fieldLink RX0 17 "RowFilters" "rowLength" "I", .fieldLink RX0 9 "RowFilters" "bytes" "[I", .methodLink RX0 33 yX0_requireByte, .instanceMethod yX0_requireByte, .selects RX0 yX0_requireByte yX0_requireByte, .code yX0_requireByte cX0_requireByte 3 none, .methodLink RX0 37 yX0_requireRow, .instanceMethod yX0_requireRow, .selects RX0 yX0_requireRow yX0_requireRow, .code yX0_requireRow cX0_requireRow 2 none, .fieldLink RX0 13 "RowFilters" "rowCount" "I", .methodLink RX0 23 yX0_requireWithin, .static yX0_requireWithin, .code yX0_requireWithin cX0_requireWithin 3 none, .classLink RX0 94 "java/lang/IllegalArgumentException", .initialized "java/lang/IllegalArgumentException"] ++ wsX00 ++ (vx_atS RX0 98 "java/lang/IllegalArgumentException" ["java/lang/RuntimeException", "java/lang/Exception"]).filter goodWord)
def wsL_get : List Cond := .codeWith yL_get cL_get 5 (some .int) [(0, 10, 13, 13)] :: ([.classLink RL 13 "java/lang/IllegalArgumentException", .methodLink RL 19 yX0_get, .instanceMethod yX0_get, .selects RX0 yX0_get yX0_get, .initialized RX0, .code yX0_get cX0_get 3 (some .int), .fieldLink RX0 9 "RowFilters" "bytes" "[I", .fieldLink RX0 17 "RowFilters" "rowLength" "I", .methodLink RX0 33 yX0_requireByte, .instanceMethod yX0_requireByte, .selects RX0 yX0_requireByte yX0_requireByte, .code yX0_requireByte cX0_requireByte 3 none, .methodLink RX0 37 yX0_requireRow, .instanceMethod yX0_requireRow, .selects RX0 yX0_requireRow yX0_requireRow, .code yX0_requireRow cX0_requireRow 2 none, .fieldLink RX0 13 "RowFilters" "rowCount" "I", .methodLink RX0 23 yX0_requireWithin, .static yX0_requireWithin, .code yX0_requireWithin cX0_requireWithin 3 none, .classLink RX0 94 "java/lang/IllegalArgumentException", .initialized "java/lang/IllegalArgumentException"] ++ wsX00 ++ (vx_atS RX0 98 "java/lang/IllegalArgumentException" ["java/lang/RuntimeException", "java/lang/Exception"]).filter goodWord)
def wsL_filter_r1 : List Cond := [Cond.classLink RL 13 "java/lang/IllegalArgumentException", Cond.methodLink RL 23 yX0_filter, Cond.instanceMethod yX0_filter, Cond.selects RX0 yX0_filter yX0_filter, Cond.initialized RX0, Cond.code yX0_filter cX0_filter 3 none, Cond.methodLink RX0 37 yX0_requireRow, Cond.instanceMethod yX0_requireRow, Cond.selects RX0 yX0_requireRow yX0_requireRow, Cond.code yX0_requireRow cX0_requireRow 2 none, Cond.fieldLink RX0 13 "RowFilters" "rowCount" "I", Cond.methodLink RX0 23 yX0_requireWithin, Cond.static yX0_requireWithin, Cond.code yX0_requireWithin cX0_requireWithin 3 none, Cond.classLink RX0 94 "java/lang/IllegalArgumentException", Cond.initialized "java/lang/IllegalArgumentException", Cond.methodLink RX0 41 yX0_requireFilter, Cond.static yX0_requireFilter, Cond.code yX0_requireFilter cX0_requireFilter 1 none, Cond.methodLink RX0 44 yX0_tellRow, Cond.instanceMethod yX0_tellRow, Cond.selects RX0 yX0_tellRow yX0_tellRow, Cond.code yX0_tellRow cX0_tellRow 5 none, Cond.fieldLink RX0 17 "RowFilters" "rowLength" "I"]
def wsL_filter_r2 : List Cond := [Cond.fieldLink RX0 9 "RowFilters" "bytes" "[I", Cond.methodLink RX0 79 yX0_foretold, Cond.instanceMethod yX0_foretold, Cond.selects RX0 yX0_foretold yX0_foretold, Cond.code yX0_foretold cX0_foretold 6 (some .int), Cond.fieldLink RX0 20 "RowFilters" "pointSize" "I", Cond.methodLink RX0 85 yX0_byteOrZero, Cond.instanceMethod yX0_byteOrZero, Cond.selects RX0 yX0_byteOrZero yX0_byteOrZero, Cond.code yX0_byteOrZero cX0_byteOrZero 3 (some .int), Cond.methodLink RX0 91 yX0_nearest, Cond.static yX0_nearest, Cond.code yX0_nearest cX0_nearest 7 (some .int), Cond.methodLink RX0 88 Lib.Math.abs.name, Cond.static Lib.Math.abs.name, Cond.initialized "java/lang/Math", Cond.code Lib.Math.abs.name Lib.Math.abs.code 1 (some .int)]
def wsL_filter : List Cond := .codeWith yL_filter cL_filter 4 (some .int) [(0, 6, 9, 13)] :: ((wsL_filter_r1 ++ wsL_filter_r2) ++ wsX00 ++ (vx_atS RX0 98 "java/lang/IllegalArgumentException" ["java/lang/RuntimeException", "java/lang/Exception"]).filter goodWord)
def wsL_plain_r1 : List Cond := [Cond.classLink RL 13 "java/lang/IllegalArgumentException", Cond.methodLink RL 27 yX0_plain, Cond.instanceMethod yX0_plain, Cond.selects RX0 yX0_plain yX0_plain, Cond.initialized RX0, Cond.code yX0_plain cX0_plain 3 none, Cond.methodLink RX0 37 yX0_requireRow, Cond.instanceMethod yX0_requireRow, Cond.selects RX0 yX0_requireRow yX0_requireRow, Cond.code yX0_requireRow cX0_requireRow 2 none, Cond.fieldLink RX0 13 "RowFilters" "rowCount" "I", Cond.methodLink RX0 23 yX0_requireWithin, Cond.static yX0_requireWithin, Cond.code yX0_requireWithin cX0_requireWithin 3 none, Cond.classLink RX0 94 "java/lang/IllegalArgumentException", Cond.initialized "java/lang/IllegalArgumentException", Cond.methodLink RX0 41 yX0_requireFilter, Cond.static yX0_requireFilter, Cond.code yX0_requireFilter cX0_requireFilter 1 none, Cond.methodLink RX0 47 yX0_restoreRow, Cond.instanceMethod yX0_restoreRow, Cond.selects RX0 yX0_restoreRow yX0_restoreRow, Cond.code yX0_restoreRow cX0_restoreRow 5 none, Cond.fieldLink RX0 17 "RowFilters" "rowLength" "I"]
def wsL_plain_r2 : List Cond := [Cond.fieldLink RX0 9 "RowFilters" "bytes" "[I", Cond.methodLink RX0 79 yX0_foretold, Cond.instanceMethod yX0_foretold, Cond.selects RX0 yX0_foretold yX0_foretold, Cond.code yX0_foretold cX0_foretold 6 (some .int), Cond.fieldLink RX0 20 "RowFilters" "pointSize" "I", Cond.methodLink RX0 85 yX0_byteOrZero, Cond.instanceMethod yX0_byteOrZero, Cond.selects RX0 yX0_byteOrZero yX0_byteOrZero, Cond.code yX0_byteOrZero cX0_byteOrZero 3 (some .int), Cond.methodLink RX0 91 yX0_nearest, Cond.static yX0_nearest, Cond.code yX0_nearest cX0_nearest 7 (some .int), Cond.methodLink RX0 88 Lib.Math.abs.name, Cond.static Lib.Math.abs.name, Cond.initialized "java/lang/Math", Cond.code Lib.Math.abs.name Lib.Math.abs.code 1 (some .int)]
def wsL_plain : List Cond := .codeWith yL_plain cL_plain 4 (some .int) [(0, 6, 9, 13)] :: ((wsL_plain_r1 ++ wsL_plain_r2) ++ wsX00 ++ (vx_atS RX0 98 "java/lang/IllegalArgumentException" ["java/lang/RuntimeException", "java/lang/Exception"]).filter goodWord)
def wsL_undo_r1 : List Cond := [Cond.classLink RL 13 "java/lang/IllegalArgumentException", Cond.methodLink RL 30 yX0_undo, Cond.instanceMethod yX0_undo, Cond.selects RX0 yX0_undo yX0_undo, Cond.initialized RX0, Cond.code yX0_undo cX0_undo 5 none, Cond.constant RX0 54 (390624), Cond.fieldLink RX0 13 "RowFilters" "rowCount" "I", Cond.methodLink RX0 55 Lib.Math.min.name, Cond.static Lib.Math.min.name, Cond.initialized "java/lang/Math", Cond.code Lib.Math.min.name Lib.Math.min.code 2 (some .int), Cond.methodLink RX0 23 yX0_requireWithin, Cond.static yX0_requireWithin, Cond.code yX0_requireWithin cX0_requireWithin 3 none, Cond.classLink RX0 94 "java/lang/IllegalArgumentException", Cond.initialized "java/lang/IllegalArgumentException", Cond.methodLink RX0 47 yX0_restoreRow, Cond.instanceMethod yX0_restoreRow, Cond.selects RX0 yX0_restoreRow yX0_restoreRow, Cond.code yX0_restoreRow cX0_restoreRow 5 none, Cond.fieldLink RX0 17 "RowFilters" "rowLength" "I", Cond.fieldLink RX0 9 "RowFilters" "bytes" "[I", Cond.methodLink RX0 79 yX0_foretold]
def wsL_undo_r2 : List Cond := [Cond.instanceMethod yX0_foretold, Cond.selects RX0 yX0_foretold yX0_foretold, Cond.code yX0_foretold cX0_foretold 6 (some .int), Cond.fieldLink RX0 20 "RowFilters" "pointSize" "I", Cond.methodLink RX0 85 yX0_byteOrZero, Cond.instanceMethod yX0_byteOrZero, Cond.selects RX0 yX0_byteOrZero yX0_byteOrZero, Cond.code yX0_byteOrZero cX0_byteOrZero 3 (some .int), Cond.methodLink RX0 91 yX0_nearest, Cond.static yX0_nearest, Cond.code yX0_nearest cX0_nearest 7 (some .int), Cond.methodLink RX0 88 Lib.Math.abs.name, Cond.static Lib.Math.abs.name, Cond.code Lib.Math.abs.name Lib.Math.abs.code 1 (some .int)]
def wsL_undo : List Cond := .codeWith yL_undo cL_undo 3 (some .int) [(0, 5, 8, 13)] :: ((wsL_undo_r1 ++ wsL_undo_r2) ++ wsX00 ++ (vx_atS RX0 98 "java/lang/IllegalArgumentException" ["java/lang/RuntimeException", "java/lang/Exception"]).filter goodWord)
def wsL_pass : List Cond := .codeWith yL_pass cL_pass 7 (some .int) [(0, 14, 17, 13)] :: ([.classLink RL 13 "java/lang/IllegalArgumentException", .methodLink RL 34 yX0_pass, .instanceMethod yX0_pass, .selects RX0 yX0_pass yX0_pass, .initialized RX0, .code yX0_pass cX0_pass 7 (some .int), .constant RX0 61 (100000), .fieldLink RX0 62 "RowFilters" "PASS_FROM_X" "[I", .fieldLink RX0 65 "RowFilters" "PASS_STEP_X" "[I", .fieldLink RX0 72 "RowFilters" "PASS_FROM_Y" "[I", .fieldLink RX0 75 "RowFilters" "PASS_STEP_Y" "[I", .methodLink RX0 23 yX0_requireWithin, .static yX0_requireWithin, .code yX0_requireWithin cX0_requireWithin 3 none, .classLink RX0 94 "java/lang/IllegalArgumentException", .initialized "java/lang/IllegalArgumentException", .methodLink RX0 68 yX0_pointsAlong, .static yX0_pointsAlong, .code yX0_pointsAlong cX0_pointsAlong 3 (some .int)] ++ (vx_atS RX0 98 "java/lang/IllegalArgumentException" ["java/lang/RuntimeException", "java/lang/Exception"]).filter goodWord)
def wsL_passOf : List Cond := .codeWith yL_passOf cL_passOf 5 (some .int) [(0, 10, 13, 13)] :: ([.classLink RL 13 "java/lang/IllegalArgumentException", .methodLink RL 38 yX0_passOf, .instanceMethod yX0_passOf, .selects RX0 yX0_passOf yX0_passOf, .initialized RX0, .code yX0_passOf cX0_passOf 4 (some .int), .constant RX0 78 (99999), .fieldLink RX0 65 "RowFilters" "PASS_STEP_X" "[I", .fieldLink RX0 62 "RowFilters" "PASS_FROM_X" "[I", .fieldLink RX0 75 "RowFilters" "PASS_STEP_Y" "[I", .fieldLink RX0 72 "RowFilters" "PASS_FROM_Y" "[I", .methodLink RX0 23 yX0_requireWithin, .static yX0_requireWithin, .code yX0_requireWithin cX0_requireWithin 3 none, .classLink RX0 94 "java/lang/IllegalArgumentException", .initialized "java/lang/IllegalArgumentException"] ++ (vx_atS RX0 98 "java/lang/IllegalArgumentException" ["java/lang/RuntimeException", "java/lang/Exception"]).filter goodWord)
set_option maxRecDepth 20000 in
theorem ggL_open_X0_open : GoodIn wsL_open wsX0_open := goodIn_ca (goodIn_r _ [6, 7, 8, 9, 10, 11, 12, 5, 13, 14, 15, 16, 17, 18, 19, 20, 21, 22, 23] (by decide +kernel) (by decide +kernel)) (goodIn_sub (fun _ h => List.mem_cons_of_mem _ (List.mem_append_right _ h)) (by decide +kernel))
set_option maxRecDepth 20000 in
theorem gL_open_X0_open : GoodIn wsL_open (wsV RL 7 RX0 yX0_open wsX0_open) := goodIn_app (goodIn_of _ (by decide +kernel)) ggL_open_X0_open
theorem dL_open_0 : decode cL_open 0 = .ok (.aload_n 0, 1) := by decide +kernel
theorem dL_open_1 : decode cL_open 1 = .ok (.iload_n 1, 1) := by decide +kernel
theorem dL_open_2 : decode cL_open 2 = .ok (.iload_n 2, 1) := by decide +kernel
theorem dL_open_3 : decode cL_open 3 = .ok (.iload_n 3, 1) := by decide +kernel
theorem dL_open_4 : decode cL_open 4 = .ok (.invokevirtual 7, 3) := by decide +kernel
theorem dL_open_7 : decode cL_open 7 = .ok (.goto 7, 3) := by decide +kernel
theorem dL_open_10 : decode cL_open 10 = .ok (.astore 4, 2) := by decide +kernel
theorem dL_open_12 : decode cL_open 12 = .ok (.iconst 1, 1) := by decide +kernel
theorem dL_open_13 : decode cL_open 13 = .ok (.ireturn, 1) := by decide +kernel
theorem dL_open_14 : decode cL_open 14 = .ok (.iconst 0, 1) := by decide +kernel
theorem dL_open_15 : decode cL_open 15 = .ok (.ireturn, 1) := by decide +kernel
set_option maxRecDepth 20000 in
theorem ggL_set_X0_set : GoodIn wsL_set wsX0_set := goodIn_ca (goodIn_r _ [6, 7, 8, 9, 10, 11, 5, 12, 13, 14, 15, 16, 17, 18, 19, 20, 21, 22, 23, 24, 25, 26] (by decide +kernel) (by decide +kernel)) (goodIn_sub (fun _ h => List.mem_cons_of_mem _ (List.mem_append_right _ h)) (by decide +kernel))
set_option maxRecDepth 20000 in
theorem gL_set_X0_set : GoodIn wsL_set (wsV RL 15 RX0 yX0_set wsX0_set) := goodIn_app (goodIn_of _ (by decide +kernel)) ggL_set_X0_set
theorem dL_set_0 : decode cL_set 0 = .ok (.aload 4, 2) := by decide +kernel
theorem dL_set_2 : decode cL_set 2 = .ok (.iconst 0, 1) := by decide +kernel
theorem dL_set_3 : decode cL_set 3 = .ok (.aload_n 0, 1) := by decide +kernel
theorem dL_set_4 : decode cL_set 4 = .ok (.iload_n 1, 1) := by decide +kernel
theorem dL_set_5 : decode cL_set 5 = .ok (.iload_n 2, 1) := by decide +kernel
theorem dL_set_6 : decode cL_set 6 = .ok (.iload_n 3, 1) := by decide +kernel
theorem dL_set_7 : decode cL_set 7 = .ok (.invokevirtual 15, 3) := by decide +kernel
theorem dL_set_10 : decode cL_set 10 = .ok (.i2l, 1) := by decide +kernel
theorem dL_set_11 : decode cL_set 11 = .ok (.lastore, 1) := by decide +kernel
theorem dL_set_12 : decode cL_set 12 = .ok (.goto 7, 3) := by decide +kernel
theorem dL_set_15 : decode cL_set 15 = .ok (.astore 5, 2) := by decide +kernel
theorem dL_set_17 : decode cL_set 17 = .ok (.iconst 1, 1) := by decide +kernel
theorem dL_set_18 : decode cL_set 18 = .ok (.ireturn, 1) := by decide +kernel
theorem dL_set_19 : decode cL_set 19 = .ok (.iconst 0, 1) := by decide +kernel
theorem dL_set_20 : decode cL_set 20 = .ok (.ireturn, 1) := by decide +kernel
set_option maxRecDepth 20000 in
theorem ggL_get_X0_get : GoodIn wsL_get wsX0_get := goodIn_ca (goodIn_r _ [6, 7, 8, 9, 10, 11, 5, 12, 13, 14, 15, 16, 17, 18, 19, 20, 21, 22, 23, 24, 25, 26] (by decide +kernel) (by decide +kernel)) (goodIn_sub (fun _ h => List.mem_cons_of_mem _ (List.mem_append_right _ h)) (by decide +kernel))
set_option maxRecDepth 20000 in
theorem gL_get_X0_get : GoodIn wsL_get (wsV RL 19 RX0 yX0_get wsX0_get) := goodIn_app (goodIn_of _ (by decide +kernel)) ggL_get_X0_get
theorem dL_get_0 : decode cL_get 0 = .ok (.aload_n 3, 1) := by decide +kernel
theorem dL_get_1 : decode cL_get 1 = .ok (.iconst 0, 1) := by decide +kernel
theorem dL_get_2 : decode cL_get 2 = .ok (.aload_n 0, 1) := by decide +kernel
theorem dL_get_3 : decode cL_get 3 = .ok (.iload_n 1, 1) := by decide +kernel
theorem dL_get_4 : decode cL_get 4 = .ok (.iload_n 2, 1) := by decide +kernel
theorem dL_get_5 : decode cL_get 5 = .ok (.invokevirtual 19, 3) := by decide +kernel
theorem dL_get_8 : decode cL_get 8 = .ok (.i2l, 1) := by decide +kernel
theorem dL_get_9 : decode cL_get 9 = .ok (.lastore, 1) := by decide +kernel
theorem dL_get_10 : decode cL_get 10 = .ok (.goto 7, 3) := by decide +kernel
theorem dL_get_13 : decode cL_get 13 = .ok (.astore 4, 2) := by decide +kernel
theorem dL_get_15 : decode cL_get 15 = .ok (.iconst 1, 1) := by decide +kernel
theorem dL_get_16 : decode cL_get 16 = .ok (.ireturn, 1) := by decide +kernel
theorem dL_get_17 : decode cL_get 17 = .ok (.iconst 0, 1) := by decide +kernel
theorem dL_get_18 : decode cL_get 18 = .ok (.ireturn, 1) := by decide +kernel
set_option maxRecDepth 20000 in
theorem ggL_filter_X0_filter : GoodIn wsL_filter wsX0_filter := goodIn_ca (goodIn_r _ [6, 7, 8, 9, 5, 10, 11, 12, 13, 14, 15, 16, 17, 18, 19, 20, 21, 22, 23, 24, 25, 26, 27, 28, 29, 30, 31, 32, 33, 34, 35, 36, 37, 38, 39, 40, 41, 42, 43, 44, 45] (by decide +kernel) (by decide +kernel)) (goodIn_sub (fun _ h => List.mem_cons_of_mem _ (List.mem_append_right _ h)) (by decide +kernel))
set_option maxRecDepth 20000 in
theorem gL_filter_X0_filter : GoodIn wsL_filter (wsV RL 23 RX0 yX0_filter wsX0_filter) := goodIn_app (goodIn_of _ (by decide +kernel)) ggL_filter_X0_filter
theorem dL_filter_0 : decode cL_filter 0 = .ok (.aload_n 0, 1) := by decide +kernel
theorem dL_filter_1 : decode cL_filter 1 = .ok (.iload_n 1, 1) := by decide +kernel
theorem dL_filter_2 : decode cL_filter 2 = .ok (.iload_n 2, 1) := by decide +kernel
theorem dL_filter_3 : decode cL_filter 3 = .ok (.invokevirtual 23, 3) := by decide +kernel
theorem dL_filter_6 : decode cL_filter 6 = .ok (.goto 6, 3) := by decide +kernel
theorem dL_filter_9 : decode cL_filter 9 = .ok (.astore_n 3, 1) := by decide +kernel
theorem dL_filter_10 : decode cL_filter 10 = .ok (.iconst 1, 1) := by decide +kernel
theorem dL_filter_11 : decode cL_filter 11 = .ok (.ireturn, 1) := by decide +kernel
theorem dL_filter_12 : decode cL_filter 12 = .ok (.iconst 0, 1) := by decide +kernel
theorem dL_filter_13 : decode cL_filter 13 = .ok (.ireturn, 1) := by decide +kernel
set_option maxRecDepth 20000 in
theorem ggL_plain_X0_plain : GoodIn wsL_plain wsX0_plain := goodIn_ca (goodIn_r _ [6, 7, 8, 9, 5, 10, 11, 12, 13, 14, 15, 16, 17, 18, 19, 20, 21, 22, 23, 24, 25, 26, 27, 28, 29, 30, 31, 32, 33, 34, 35, 36, 37, 38, 39, 40, 41, 42, 43, 44, 45] (by decide +kernel) (by decide +kernel)) (goodIn_sub (fun _ h => List.mem_cons_of_mem _ (List.mem_append_right _ h)) (by decide +kernel))
set_option maxRecDepth 20000 in
theorem gL_plain_X0_plain : GoodIn wsL_plain (wsV RL 27 RX0 yX0_plain wsX0_plain) := goodIn_app (goodIn_of _ (by decide +kernel)) ggL_plain_X0_plain
theorem dL_plain_0 : decode cL_plain 0 = .ok (.aload_n 0, 1) := by decide +kernel
theorem dL_plain_1 : decode cL_plain 1 = .ok (.iload_n 1, 1) := by decide +kernel
theorem dL_plain_2 : decode cL_plain 2 = .ok (.iload_n 2, 1) := by decide +kernel
theorem dL_plain_3 : decode cL_plain 3 = .ok (.invokevirtual 27, 3) := by decide +kernel
theorem dL_plain_6 : decode cL_plain 6 = .ok (.goto 6, 3) := by decide +kernel
theorem dL_plain_9 : decode cL_plain 9 = .ok (.astore_n 3, 1) := by decide +kernel
theorem dL_plain_10 : decode cL_plain 10 = .ok (.iconst 1, 1) := by decide +kernel
theorem dL_plain_11 : decode cL_plain 11 = .ok (.ireturn, 1) := by decide +kernel
theorem dL_plain_12 : decode cL_plain 12 = .ok (.iconst 0, 1) := by decide +kernel
theorem dL_plain_13 : decode cL_plain 13 = .ok (.ireturn, 1) := by decide +kernel
set_option maxRecDepth 20000 in
theorem ggL_undo_X0_undo : GoodIn wsL_undo wsX0_undo := goodIn_ca (goodIn_r _ [6, 7, 8, 9, 10, 11, 12, 13, 14, 5, 15, 16, 17, 18, 19, 20, 21, 22, 23, 24, 25, 26, 27, 28, 29, 30, 31, 32, 33, 34, 35, 36, 37, 38, 39, 40, 41, 42] (by decide +kernel) (by decide +kernel)) (goodIn_sub (fun _ h => List.mem_cons_of_mem _ (List.mem_append_right _ h)) (by decide +kernel))
set_option maxRecDepth 20000 in
theorem gL_undo_X0_undo : GoodIn wsL_undo (wsV RL 30 RX0 yX0_undo wsX0_undo) := goodIn_app (goodIn_of _ (by decide +kernel)) ggL_undo_X0_undo
theorem dL_undo_0 : decode cL_undo 0 = .ok (.aload_n 0, 1) := by decide +kernel
theorem dL_undo_1 : decode cL_undo 1 = .ok (.iload_n 1, 1) := by decide +kernel
theorem dL_undo_2 : decode cL_undo 2 = .ok (.invokevirtual 30, 3) := by decide +kernel
theorem dL_undo_5 : decode cL_undo 5 = .ok (.goto 6, 3) := by decide +kernel
theorem dL_undo_8 : decode cL_undo 8 = .ok (.astore_n 2, 1) := by decide +kernel
theorem dL_undo_9 : decode cL_undo 9 = .ok (.iconst 1, 1) := by decide +kernel
theorem dL_undo_10 : decode cL_undo 10 = .ok (.ireturn, 1) := by decide +kernel
theorem dL_undo_11 : decode cL_undo 11 = .ok (.iconst 0, 1) := by decide +kernel
theorem dL_undo_12 : decode cL_undo 12 = .ok (.ireturn, 1) := by decide +kernel
set_option maxRecDepth 20000 in
theorem ggL_pass_X0_pass : GoodIn wsL_pass wsX0_pass := goodIn_ca (goodIn_r _ [6, 7, 8, 9, 10, 11, 12, 13, 5, 14, 15, 16, 17, 18, 19] (by decide +kernel) (by decide +kernel)) (goodIn_sub (fun _ h => List.mem_cons_of_mem _ (List.mem_append_right _ h)) (by decide +kernel))
set_option maxRecDepth 20000 in
theorem gL_pass_X0_pass : GoodIn wsL_pass (wsV RL 34 RX0 yX0_pass wsX0_pass) := goodIn_app (goodIn_of _ (by decide +kernel)) ggL_pass_X0_pass
theorem dL_pass_0 : decode cL_pass 0 = .ok (.aload 5, 2) := by decide +kernel
theorem dL_pass_2 : decode cL_pass 2 = .ok (.iconst 0, 1) := by decide +kernel
theorem dL_pass_3 : decode cL_pass 3 = .ok (.aload_n 0, 1) := by decide +kernel
theorem dL_pass_4 : decode cL_pass 4 = .ok (.iload_n 1, 1) := by decide +kernel
theorem dL_pass_5 : decode cL_pass 5 = .ok (.iload_n 2, 1) := by decide +kernel
theorem dL_pass_6 : decode cL_pass 6 = .ok (.iload_n 3, 1) := by decide +kernel
theorem dL_pass_7 : decode cL_pass 7 = .ok (.iload 4, 2) := by decide +kernel
theorem dL_pass_9 : decode cL_pass 9 = .ok (.invokevirtual 34, 3) := by decide +kernel
theorem dL_pass_12 : decode cL_pass 12 = .ok (.i2l, 1) := by decide +kernel
theorem dL_pass_13 : decode cL_pass 13 = .ok (.lastore, 1) := by decide +kernel
theorem dL_pass_14 : decode cL_pass 14 = .ok (.goto 7, 3) := by decide +kernel
theorem dL_pass_17 : decode cL_pass 17 = .ok (.astore 6, 2) := by decide +kernel
theorem dL_pass_19 : decode cL_pass 19 = .ok (.iconst 1, 1) := by decide +kernel
theorem dL_pass_20 : decode cL_pass 20 = .ok (.ireturn, 1) := by decide +kernel
theorem dL_pass_21 : decode cL_pass 21 = .ok (.iconst 0, 1) := by decide +kernel
theorem dL_pass_22 : decode cL_pass 22 = .ok (.ireturn, 1) := by decide +kernel
set_option maxRecDepth 20000 in
theorem ggL_passOf_X0_passOf : GoodIn wsL_passOf wsX0_passOf := goodIn_ca (goodIn_r _ [6, 7, 8, 9, 10, 11, 12, 13, 5, 14, 15, 16] (by decide +kernel) (by decide +kernel)) (goodIn_sub (fun _ h => List.mem_cons_of_mem _ (List.mem_append_right _ h)) (by decide +kernel))
set_option maxRecDepth 20000 in
theorem gL_passOf_X0_passOf : GoodIn wsL_passOf (wsV RL 38 RX0 yX0_passOf wsX0_passOf) := goodIn_app (goodIn_of _ (by decide +kernel)) ggL_passOf_X0_passOf
theorem dL_passOf_0 : decode cL_passOf 0 = .ok (.aload_n 3, 1) := by decide +kernel
theorem dL_passOf_1 : decode cL_passOf 1 = .ok (.iconst 0, 1) := by decide +kernel
theorem dL_passOf_2 : decode cL_passOf 2 = .ok (.aload_n 0, 1) := by decide +kernel
theorem dL_passOf_3 : decode cL_passOf 3 = .ok (.iload_n 1, 1) := by decide +kernel
theorem dL_passOf_4 : decode cL_passOf 4 = .ok (.iload_n 2, 1) := by decide +kernel
theorem dL_passOf_5 : decode cL_passOf 5 = .ok (.invokevirtual 38, 3) := by decide +kernel
theorem dL_passOf_8 : decode cL_passOf 8 = .ok (.i2l, 1) := by decide +kernel
theorem dL_passOf_9 : decode cL_passOf 9 = .ok (.lastore, 1) := by decide +kernel
theorem dL_passOf_10 : decode cL_passOf 10 = .ok (.goto 7, 3) := by decide +kernel
theorem dL_passOf_13 : decode cL_passOf 13 = .ok (.astore 4, 2) := by decide +kernel
theorem dL_passOf_15 : decode cL_passOf 15 = .ok (.iconst 1, 1) := by decide +kernel
theorem dL_passOf_16 : decode cL_passOf 16 = .ok (.ireturn, 1) := by decide +kernel
theorem dL_passOf_17 : decode cL_passOf 17 = .ok (.iconst 0, 1) := by decide +kernel
theorem dL_passOf_18 : decode cL_passOf 18 = .ok (.ireturn, 1) := by decide +kernel
end
section
abbrev rl_W (h0 ab : Nat) (cI : ClassId) (rc rl ps : Nat) (f : Nat → Int32) (cL : ClassId) (oa : Nat) (o : Nat → Int64) : va_W := [(h0, .inr (0, [.ref ab, .int (nI rc), .int (nI rl), .int (nI ps)])), (ab, .inl (cI, 4096, .inl f)), (oa, .inl (cL, 1, .inr (.inl o)))]
abbrev rl_preD (dC : Nat → ClassId) (dI : Nat → Nat → Nat) (cI : ClassId) (h0 ab rc rl ps : Nat) (f : Nat → Int32) (cL : ClassId) (oa : Nat) (o : Nat → Int64) (sz : Nat) (U : State) : Prop := U.heap.size = sz ∧ va_P (dC, dI) rw_cl (rl_W h0 ab cI rc rl ps f cL oa o) U.heap ∧ va_K (dC, dI) rw_cl [(cI, .int), (cL, .long)] U ∧ va_D (fun _ => True) (rl_W h0 ab cI rc rl ps f cL oa o)
abbrev rl_B (dC : Nat → ClassId) (dI : Nat → Nat → Nat) (cI : ClassId) (h0 ab rc rl ps : Nat) (f : Nat → Int32) (cL : ClassId) (oa : Nat) (o : Nat → Int64) (A : Nat → Prop) (t : State) : Prop := va_P (dC, dI) rw_cl (rl_W h0 ab cI rc rl ps f cL oa o) t.heap ∧ va_K (dC, dI) rw_cl [(cI, .int), (cL, .long)] t ∧ va_D A (rl_W h0 ab cI rc rl ps f cL oa o)
set_option maxHeartbeats 4000000 in
set_option maxRecDepth 100000 in
theorem c_L_open (l : Launch) (dC : Nat → ClassId) (dI : Nat → Nat → Nat) (cI : ClassId) (h0 ab rc rl ps : Nat) (f : Nat → Int32) (sz : Nat) (h n z : Nat) (ok : rf_ok h n z) : Met l yL_open wsL_open ({ frames := 2, cells := 0, slots := 0, locals := 46 }) (va_Pc [.ref h0, .int (nI h), .int (nI n), .int (nI z)] (fun U => rw_preD dC dI cI h0 ab rc rl ps f sz U)) (va_Qi (fun (r : Int32) (_ : Unit) => r = 0) (fun _ t9 => rw_B dC dI cI h0 ab h n z (rf_p f (fun _ => 0) 0 4096) (va_A (rw_W h0 ab cI rc rl ps f) sz) t9) (va_A (rw_W h0 ab cI rc rl ps f) sz)) 0 0 (va_A (rw_W h0 ab cI rc rl ps f) sz) := by
  refine va_MetW (cc := cL_open) (maxL := 5) (ret := some .int) (by decide) rfl ?_
  intro p e s m args below meth c s₁ B hml hv
  obtain ⟨rfl, hsz, hP, hK, hD0⟩ := hv
  have hx := B.exec
  have hb := B.bytes
  have hr := B.returns
  have hts := atoms_spec (ws := wsL_open) B.pre
  have hown : s.vm.findClass RL = some m.cls := findClass_of_methodNamed B.named
  have hlocks := B.notSynchronized
  subst hsz
  have hD := hD0.self (sz := s.heap.size)
  generalize hAe : va_A (rw_W h0 ab cI rc rl ps f) s.heap.size = A at hD ⊢
  have hA : ∀ q : Nat, s.heap.size ≤ q → A q := fun q h => by rw [← hAe]; exact Or.inr h
  have hS : va_S A s.heap s.heap [] := va_S.rf
  have hP : va_P (dC, dI) rw_cl (rw_W h0 ab cI rc rl ps f) s.heap := hP
  have hl := lv_entry ([.ref h0, .int (nI h), .int (nI n), .int (nI z)]) (n := 5) (Nat.le_of_ble_eq_true rfl)
  rw [lg_entry_eq]
  generalize (lg_sl ([.ref h0, .int (nI h), .int (nI n), .int (nI z)]) ++ List.replicate (5 - (lg_sl ([.ref h0, .int (nI h), .int (nI n), .int (nI z)])).length) Slot.unset).toArray = ls at hl ⊢
  have hl : lv_has ls 5 [(0, .ref h0), (1, .int (nI h)), (2, .int (nI n)), (3, .int (nI z))] := hl
  refine lv_aload_n hx hb dL_open_0 rfl (lv_at hl 0 rfl) ?_
  refine lv_iload_n hx hb dL_open_1 rfl (lv_at hl 1 rfl) ?_
  refine lv_iload_n hx hb dL_open_2 rfl (lv_at hl 2 rfl) ?_
  refine lv_iload_n hx hb dL_open_3 rfl (lv_at hl 3 rfl) ?_
  have hFc := va_free (wc := [(h0, .inr (0, [.ref ab, .int (nI rc), .int (nI rl), .int (nI ps)])), (ab, .inl (cI, 4096, .inl f))]) hD hS hA [0, 1] rfl
  refine va_callv (va_runV (C := RX0) (As := [.int (nI h), .int (nI n), .int (nI z)]) (rest := []) ⟨hx, hb, hml, hown, hts⟩ (c_X0_open l dC dI cI h0 ab rc rl ps f s.heap.size h n z ok) (cwV 3 hts gL_open_X0_open rfl rfl rfl (by decide +kernel) ⟨Nat.le_of_ble_eq_true rfl, Nat.le_of_ble_eq_true rfl⟩) ⟨fun a U g mk q => by obtain ⟨q0, q1, qP, qK, qD⟩ := q; exact ⟨q0, q1, qP, va_K.moved (u := U) (U := U.calling g mk a) (Vm.Alike.refl U.vm) qK, qD⟩, va_recv hK hP (ci := 0) (q0 := 0) rfl rfl, fun U hU hW => ⟨rfl, by rw [hU], by rw [hU]; exact hP, va_K.moved hW.alike hK, hD.weaken (fun _ _ _ _ => trivial)⟩⟩ rfl rfl hl.1 rfl (lv_room (Nat.le_of_ble_eq_true rfl)) dL_open_4 ⟨Nat.zero_le _, Nat.zero_le _⟩) hS (fun q _ h => hFc q h) hFc (fun u t9 H1 locs ht hvm hw hB hz1 hk1 hS => ?_)
  obtain ⟨hP1, hK1, hD1⟩ := hB
  rw [ht] at hP1
  obtain ⟨hP, hD⟩ := va_join (wr := []) (w1 := [(h0, .inr (0, [.ref ab, .int (nI h), .int (nI n), .int (nI z)])), (ab, .inl (cI, 4096, .inl (rf_p f (fun _ => 0) 0 4096)))]) hP hD [0, 1] [] rfl rfl (by decide) (by decide) hk1 hFc hP1 hD1
  generalize H1 = H at hP hS ⊢
  have hP : va_P (dC, dI) rw_cl [(h0, .inr (0, [.ref ab, .int (nI h), .int (nI n), .int (nI z)])), (ab, .inl (cI, 4096, .inl (rf_p f (fun _ => 0) 0 4096)))] H := hP
  have hD : va_D A [(h0, .inr (0, [.ref ab, .int (nI h), .int (nI n), .int (nI z)])), (ab, .inl (cI, 4096, .inl (rf_p f (fun _ => 0) 0 4096)))] := hD
  refine W.widen (k := 0) (n := 0) (Nat.le_refl _) (Nat.le_refl _) ?_
  refine lv_goto (tgt := 14) hx hb dL_open_7 (by decide) ?_
  refine lv_iconst (v := 0) hx hb dL_open_14 (by decide) ?_
  exact W.iret (v := 0) hx hb hr (fun t ht hW => ⟨⟨0, (), rfl, rfl, by rw [ht]; exact hP, va_K.moved hW.alike hK, hD⟩, hS.F ht⟩) hS.2.2 dL_open_15
set_option maxHeartbeats 4000000 in
set_option maxRecDepth 100000 in
theorem c_L_set (l : Launch) (dC : Nat → ClassId) (dI : Nat → Nat → Nat) (cI : ClassId) (h0 ab rc rl ps : Nat) (f : Nat → Int32) (cL : ClassId) (oa : Nat) (o : Nat → Int64) (sz : Nat) (y i : Nat) (v : Int32) (ok : rf_ok rc rl ps) (hy : y < rc) (hi : i < rl) (hv1 : ¬ v < 0) (hv2 : ¬ 255 < v) : Met l yL_set wsL_set ({ frames := 4, cells := 0, slots := 0, locals := 90 }) (va_Pc [.ref h0, .int (nI y), .int (nI i), .int v, .ref oa] (fun U => rl_preD dC dI cI h0 ab rc rl ps f cL oa o sz U)) (va_Qi (fun (r : Int32) (_ : Unit) => r = 0) (fun _ t9 => rl_B dC dI cI h0 ab rc rl ps (upd f (y * rl + i) v) cL oa (vp_updL o 0 (f (y * rl + i)).toInt64) (va_A (rl_W h0 ab cI rc rl ps f cL oa o) sz) t9) (va_A (rl_W h0 ab cI rc rl ps f cL oa o) sz)) 0 0 (va_A (rl_W h0 ab cI rc rl ps f cL oa o) sz) := by
  refine va_MetW (cc := cL_set) (maxL := 6) (ret := some .int) (by decide) rfl ?_
  intro p e s m args below meth c s₁ B hml hv
  obtain ⟨rfl, hsz, hP, hK, hD0⟩ := hv
  have hx := B.exec
  have hb := B.bytes
  have hr := B.returns
  have hts := atoms_spec (ws := wsL_set) B.pre
  have hown : s.vm.findClass RL = some m.cls := findClass_of_methodNamed B.named
  have hlocks := B.notSynchronized
  subst hsz
  have hD := hD0.self (sz := s.heap.size)
  generalize hAe : va_A (rl_W h0 ab cI rc rl ps f cL oa o) s.heap.size = A at hD ⊢
  have hA : ∀ q : Nat, s.heap.size ≤ q → A q := fun q h => by rw [← hAe]; exact Or.inr h
  have hS : va_S A s.heap s.heap [] := va_S.rf
  have hP : va_P (dC, dI) rw_cl (rl_W h0 ab cI rc rl ps f cL oa o) s.heap := hP
  have hl := lv_entry ([.ref h0, .int (nI y), .int (nI i), .int v, .ref oa]) (n := 6) (Nat.le_of_ble_eq_true rfl)
  rw [lg_entry_eq]
  generalize (lg_sl ([.ref h0, .int (nI y), .int (nI i), .int v, .ref oa]) ++ List.replicate (6 - (lg_sl ([.ref h0, .int (nI y), .int (nI i), .int v, .ref oa])).length) Slot.unset).toArray = ls at hl ⊢
  have hl : lv_has ls 6 [(0, .ref h0), (1, .int (nI y)), (2, .int (nI i)), (3, .int v), (4, .ref oa)] := hl
  refine lv_aload hx hb dL_set_0 (lv_at hl 4 rfl) ?_
  refine lv_iconst (v := 0) hx hb dL_set_2 (by decide) ?_
  refine lv_aload_n hx hb dL_set_3 rfl (lv_at hl 0 rfl) ?_
  refine lv_iload_n hx hb dL_set_4 rfl (lv_at hl 1 rfl) ?_
  refine lv_iload_n hx hb dL_set_5 rfl (lv_at hl 2 rfl) ?_
  refine lv_iload_n hx hb dL_set_6 rfl (lv_at hl 3 rfl) ?_
  have hPc := hP.sub (ws' := [(h0, .inr (0, [.ref ab, .int (nI rc), .int (nI rl), .int (nI ps)])), (ab, .inl (cI, 4096, .inl f))]) [0, 1] rfl
  have hDc := hD.sub (ws' := [(h0, .inr (0, [.ref ab, .int (nI rc), .int (nI rl), .int (nI ps)])), (ab, .inl (cI, 4096, .inl f))]) [0, 1] (by decide) rfl
  have hKc := hK.sub (tys' := [(cI, .int)]) [0] rfl
  have hFc := va_free (wc := [(h0, .inr (0, [.ref ab, .int (nI rc), .int (nI rl), .int (nI ps)])), (ab, .inl (cI, 4096, .inl f))]) hD hS hA [0, 1] rfl
  refine va_calli (va_runV (C := RX0) (As := [.int (nI y), .int (nI i), .int v]) (rest := [.int 0, .ref oa]) ⟨hx, hb, hml, hown, hts⟩ (c_X0_set l dC dI cI h0 ab rc rl ps f s.heap.size y i v ok hy hi hv1 hv2) (cwV 3 hts gL_set_X0_set rfl rfl rfl (by decide +kernel) ⟨Nat.le_of_ble_eq_true rfl, Nat.le_of_ble_eq_true rfl⟩) ⟨fun a U g mk q => by obtain ⟨q0, q1, qP, qK, qD⟩ := q; exact ⟨q0, q1, qP, va_K.moved (u := U) (U := U.calling g mk a) (Vm.Alike.refl U.vm) qK, qD⟩, va_recv hK hP (ci := 0) (q0 := 0) rfl rfl, fun U hU hW => ⟨rfl, by rw [hU], by rw [hU]; exact hPc, va_K.moved hW.alike hKc, hDc.weaken (fun _ _ _ _ => trivial)⟩⟩ rfl rfl hl.1 rfl (lv_room (Nat.le_of_ble_eq_true rfl)) dL_set_7 ⟨Nat.zero_le _, Nat.zero_le _⟩) hS (fun q _ h => hFc q h) hFc (fun r u t9 H1 locs ht hvm er hB hz1 hk1 hS => ?_)
  obtain ⟨hP1, hK1, hD1⟩ := hB
  rw [ht] at hP1
  obtain ⟨hP, hD⟩ := va_join (wr := [(oa, .inl (cL, 1, .inr (.inl o)))]) (w1 := [(h0, .inr (0, [.ref ab, .int (nI rc), .int (nI rl), .int (nI ps)])), (ab, .inl (cI, 4096, .inl (upd f (y * rl + i) v)))]) hP hD [0, 1] [2] rfl rfl (by decide) (by decide) hk1 hFc hP1 hD1
  generalize H1 = H at hP hS ⊢
  have hP := hP.sub (ws' := [(h0, .inr (0, [.ref ab, .int (nI rc), .int (nI rl), .int (nI ps)])), (ab, .inl (cI, 4096, .inl (upd f (y * rl + i) v))), (oa, .inl (cL, 1, .inr (.inl o)))]) [1, 2, 0] rfl
  have hD := hD.sub (ws' := [(h0, .inr (0, [.ref ab, .int (nI rc), .int (nI rl), .int (nI ps)])), (ab, .inl (cI, 4096, .inl (upd f (y * rl + i) v))), (oa, .inl (cL, 1, .inr (.inl o)))]) [1, 2, 0] (by decide) rfl
  have hP : va_P (dC, dI) rw_cl [(h0, .inr (0, [.ref ab, .int (nI rc), .int (nI rl), .int (nI ps)])), (ab, .inl (cI, 4096, .inl (upd f (y * rl + i) v))), (oa, .inl (cL, 1, .inr (.inl o)))] H := hP
  have hD : va_D A [(h0, .inr (0, [.ref ab, .int (nI rc), .int (nI rl), .int (nI ps)])), (ab, .inl (cI, 4096, .inl (upd f (y * rl + i) v))), (oa, .inl (cL, 1, .inr (.inl o)))] := hD
  refine W.widen (k := 0) (n := 0) (Nat.le_refl _) (Nat.le_refl _) ?_
  subst er
  refine lv_i2l hx hb dL_set_10 rfl ?_
  refine va_last hx hb hK hP hD hS 2 1 rfl rfl (vp_in_nI (n := 0) (by omega) (by omega)) dL_set_11 (fun H locs hP hD hS => ?_)
  rw [show (0 : Int32).toNatClampNeg = 0 from by decide] at hP hD
  have hP : va_P (dC, dI) rw_cl [(h0, .inr (0, [.ref ab, .int (nI rc), .int (nI rl), .int (nI ps)])), (ab, .inl (cI, 4096, .inl (upd f (y * rl + i) v))), (oa, .inl (cL, 1, .inr (.inl (vp_updL o 0 ((f (y * rl + i)).toInt64)))))] H := hP
  have hD : va_D A [(h0, .inr (0, [.ref ab, .int (nI rc), .int (nI rl), .int (nI ps)])), (ab, .inl (cI, 4096, .inl (upd f (y * rl + i) v))), (oa, .inl (cL, 1, .inr (.inl (vp_updL o 0 ((f (y * rl + i)).toInt64)))))] := hD
  refine lv_goto (tgt := 19) hx hb dL_set_12 (by decide) ?_
  refine lv_iconst (v := 0) hx hb dL_set_19 (by decide) ?_
  exact W.iret (v := 0) hx hb hr (fun t ht hW => ⟨⟨0, (), rfl, rfl, by rw [ht]; exact hP, va_K.moved hW.alike hK, hD⟩, hS.F ht⟩) hS.2.2 dL_set_20
set_option maxHeartbeats 4000000 in
set_option maxRecDepth 100000 in
theorem c_L_get (l : Launch) (dC : Nat → ClassId) (dI : Nat → Nat → Nat) (cI : ClassId) (h0 ab rc rl ps : Nat) (f : Nat → Int32) (cL : ClassId) (oa : Nat) (o : Nat → Int64) (sz : Nat) (y i : Nat) (ok : rf_ok rc rl ps) (hy : y < rc) (hi : i < rl) : Met l yL_get wsL_get ({ frames := 4, cells := 0, slots := 0, locals := 87 }) (va_Pc [.ref h0, .int (nI y), .int (nI i), .ref oa] (fun U => rl_preD dC dI cI h0 ab rc rl ps f cL oa o sz U)) (va_Qi (fun (r : Int32) (_ : Unit) => r = 0) (fun _ t9 => rl_B dC dI cI h0 ab rc rl ps (f) cL oa (vp_updL o 0 (f (y * rl + i)).toInt64) (va_A (rl_W h0 ab cI rc rl ps f cL oa o) sz) t9) (va_A (rl_W h0 ab cI rc rl ps f cL oa o) sz)) 0 0 (va_A (rl_W h0 ab cI rc rl ps f cL oa o) sz) := by
  refine va_MetW (cc := cL_get) (maxL := 5) (ret := some .int) (by decide) rfl ?_
  intro p e s m args below meth c s₁ B hml hv
  obtain ⟨rfl, hsz, hP, hK, hD0⟩ := hv
  have hx := B.exec
  have hb := B.bytes
  have hr := B.returns
  have hts := atoms_spec (ws := wsL_get) B.pre
  have hown : s.vm.findClass RL = some m.cls := findClass_of_methodNamed B.named
  have hlocks := B.notSynchronized
  subst hsz
  have hD := hD0.self (sz := s.heap.size)
  generalize hAe : va_A (rl_W h0 ab cI rc rl ps f cL oa o) s.heap.size = A at hD ⊢
  have hA : ∀ q : Nat, s.heap.size ≤ q → A q := fun q h => by rw [← hAe]; exact Or.inr h
  have hS : va_S A s.heap s.heap [] := va_S.rf
  have hP : va_P (dC, dI) rw_cl (rl_W h0 ab cI rc rl ps f cL oa o) s.heap := hP
  have hl := lv_entry ([.ref h0, .int (nI y), .int (nI i), .ref oa]) (n := 5) (Nat.le_of_ble_eq_true rfl)
  rw [lg_entry_eq]
  generalize (lg_sl ([.ref h0, .int (nI y), .int (nI i), .ref oa]) ++ List.replicate (5 - (lg_sl ([.ref h0, .int (nI y), .int (nI i), .ref oa])).length) Slot.unset).toArray = ls at hl ⊢
  have hl : lv_has ls 5 [(0, .ref h0), (1, .int (nI y)), (2, .int (nI i)), (3, .ref oa)] := hl
  refine lv_aload_n hx hb dL_get_0 rfl (lv_at hl 3 rfl) ?_
  refine lv_iconst (v := 0) hx hb dL_get_1 (by decide) ?_
  refine lv_aload_n hx hb dL_get_2 rfl (lv_at hl 0 rfl) ?_
  refine lv_iload_n hx hb dL_get_3 rfl (lv_at hl 1 rfl) ?_
  refine lv_iload_n hx hb dL_get_4 rfl (lv_at hl 2 rfl) ?_
  have hPc := hP.sub (ws' := [(h0, .inr (0, [.ref ab, .int (nI rc), .int (nI rl), .int (nI ps)])), (ab, .inl (cI, 4096, .inl f))]) [0, 1] rfl
  have hKc := hK.sub (tys' := [(cI, .int)]) [0] rfl
  refine vp_callSi (W.runV (C := RX0) (As := [.int (nI y), .int (nI i)]) (rest := [.int 0, .ref oa]) ⟨hx, hb, hml, hown, hts⟩ (c_X0_get l dC dI cI h0 ab rc rl ps f y i ok hy hi) (cwV 2 hts gL_get_X0_get rfl rfl rfl (by decide +kernel) ⟨Nat.le_of_ble_eq_true rfl, Nat.le_of_ble_eq_true rfl⟩) ⟨fun a U g mk q => by obtain ⟨q0, qP, qK⟩ := q; exact ⟨q0, qP, va_K.moved (u := U) (U := U.calling g mk a) (Vm.Alike.refl U.vm) qK⟩, va_recv hK hP (ci := 0) (q0 := 0) rfl rfl, fun U hU hW => ⟨rfl, by rw [hU]; exact hPc, va_K.moved hW.alike hKc⟩⟩ rfl rfl hl.1 rfl (lv_room (Nat.le_of_ble_eq_true rfl)) dL_get_5 ⟨Nat.zero_le _, Nat.zero_le _⟩) (fun r er => ?_)
  subst er
  refine lv_i2l hx hb dL_get_8 rfl ?_
  refine va_last hx hb hK hP hD hS 2 1 rfl rfl (vp_in_nI (n := 0) (by omega) (by omega)) dL_get_9 (fun H locs hP hD hS => ?_)
  rw [show (0 : Int32).toNatClampNeg = 0 from by decide] at hP hD
  have hP : va_P (dC, dI) rw_cl [(h0, .inr (0, [.ref ab, .int (nI rc), .int (nI rl), .int (nI ps)])), (ab, .inl (cI, 4096, .inl f)), (oa, .inl (cL, 1, .inr (.inl (vp_updL o 0 ((f (y * rl + i)).toInt64)))))] H := hP
  have hD : va_D A [(h0, .inr (0, [.ref ab, .int (nI rc), .int (nI rl), .int (nI ps)])), (ab, .inl (cI, 4096, .inl f)), (oa, .inl (cL, 1, .inr (.inl (vp_updL o 0 ((f (y * rl + i)).toInt64)))))] := hD
  refine lv_goto (tgt := 17) hx hb dL_get_10 (by decide) ?_
  refine lv_iconst (v := 0) hx hb dL_get_17 (by decide) ?_
  exact W.iret (v := 0) hx hb hr (fun t ht hW => ⟨⟨0, (), rfl, rfl, by rw [ht]; exact hP, va_K.moved hW.alike hK, hD⟩, hS.F ht⟩) hS.2.2 dL_get_18
set_option maxHeartbeats 4000000 in
set_option maxRecDepth 100000 in
theorem c_L_filter (l : Launch) (dC : Nat → ClassId) (dI : Nat → Nat → Nat) (cI : ClassId) (h0 ab rc rl ps : Nat) (f : Nat → Int32) (sz : Nat) (y q : Nat) (ok : rf_ok rc rl ps) (hy : y < rc) (hq : q ≤ 4) : Met l yL_filter wsL_filter ({ frames := 5, cells := 0, slots := 0, locals := 110 }) (va_Pc [.ref h0, .int (nI y), .int (nI q)] (fun U => rw_preD dC dI cI h0 ab rc rl ps f sz U)) (va_Qi (fun (r : Int32) (_ : Unit) => r = 0) (fun _ t9 => rw_B dC dI cI h0 ab rc rl ps (rf_p f (rf_tv f rl ps y q) (y * rl) (y * rl + rl)) (va_A (rw_W h0 ab cI rc rl ps f) sz) t9) (va_A (rw_W h0 ab cI rc rl ps f) sz)) 0 0 (va_A (rw_W h0 ab cI rc rl ps f) sz) := by
  refine va_MetW (cc := cL_filter) (maxL := 4) (ret := some .int) (by decide) rfl ?_
  intro p e s m args below meth c s₁ B hml hv
  obtain ⟨rfl, hsz, hP, hK, hD0⟩ := hv
  have hx := B.exec
  have hb := B.bytes
  have hr := B.returns
  have hts := atoms_spec (ws := wsL_filter) B.pre
  have hown : s.vm.findClass RL = some m.cls := findClass_of_methodNamed B.named
  have hlocks := B.notSynchronized
  subst hsz
  have hD := hD0.self (sz := s.heap.size)
  generalize hAe : va_A (rw_W h0 ab cI rc rl ps f) s.heap.size = A at hD ⊢
  have hA : ∀ q : Nat, s.heap.size ≤ q → A q := fun q h => by rw [← hAe]; exact Or.inr h
  have hS : va_S A s.heap s.heap [] := va_S.rf
  have hP : va_P (dC, dI) rw_cl (rw_W h0 ab cI rc rl ps f) s.heap := hP
  have hl := lv_entry ([.ref h0, .int (nI y), .int (nI q)]) (n := 4) (Nat.le_of_ble_eq_true rfl)
  rw [lg_entry_eq]
  generalize (lg_sl ([.ref h0, .int (nI y), .int (nI q)]) ++ List.replicate (4 - (lg_sl ([.ref h0, .int (nI y), .int (nI q)])).length) Slot.unset).toArray = ls at hl ⊢
  have hl : lv_has ls 4 [(0, .ref h0), (1, .int (nI y)), (2, .int (nI q))] := hl
  refine lv_aload_n hx hb dL_filter_0 rfl (lv_at hl 0 rfl) ?_
  refine lv_iload_n hx hb dL_filter_1 rfl (lv_at hl 1 rfl) ?_
  refine lv_iload_n hx hb dL_filter_2 rfl (lv_at hl 2 rfl) ?_
  have hFc := va_free (wc := [(h0, .inr (0, [.ref ab, .int (nI rc), .int (nI rl), .int (nI ps)])), (ab, .inl (cI, 4096, .inl f))]) hD hS hA [0, 1] rfl
  refine va_callv (va_runV (C := RX0) (As := [.int (nI y), .int (nI q)]) (rest := []) ⟨hx, hb, hml, hown, hts⟩ (c_X0_filter l dC dI cI h0 ab rc rl ps f s.heap.size y q ok hy hq) (cwV 2 hts gL_filter_X0_filter rfl rfl rfl (by decide +kernel) ⟨Nat.le_of_ble_eq_true rfl, Nat.le_of_ble_eq_true rfl⟩) ⟨fun a U g mk q => by obtain ⟨q0, q1, qP, qK, qD⟩ := q; exact ⟨q0, q1, qP, va_K.moved (u := U) (U := U.calling g mk a) (Vm.Alike.refl U.vm) qK, qD⟩, va_recv hK hP (ci := 0) (q0 := 0) rfl rfl, fun U hU hW => ⟨rfl, by rw [hU], by rw [hU]; exact hP, va_K.moved hW.alike hK, hD.weaken (fun _ _ _ _ => trivial)⟩⟩ rfl rfl hl.1 rfl (lv_room (Nat.le_of_ble_eq_true rfl)) dL_filter_3 ⟨Nat.zero_le _, Nat.zero_le _⟩) hS (fun q _ h => hFc q h) hFc (fun u t9 H1 locs ht hvm hw hB hz1 hk1 hS => ?_)
  obtain ⟨hP1, hK1, hD1⟩ := hB
  rw [ht] at hP1
  obtain ⟨hP, hD⟩ := va_join (wr := []) (w1 := [(h0, .inr (0, [.ref ab, .int (nI rc), .int (nI rl), .int (nI ps)])), (ab, .inl (cI, 4096, .inl (rf_p f (rf_tv f rl ps y q) (y * rl) (y * rl + rl))))]) hP hD [0, 1] [] rfl rfl (by decide) (by decide) hk1 hFc hP1 hD1
  generalize H1 = H at hP hS ⊢
  have hP : va_P (dC, dI) rw_cl [(h0, .inr (0, [.ref ab, .int (nI rc), .int (nI rl), .int (nI ps)])), (ab, .inl (cI, 4096, .inl (rf_p f (rf_tv f rl ps y q) (y * rl) (y * rl + rl))))] H := hP
  have hD : va_D A [(h0, .inr (0, [.ref ab, .int (nI rc), .int (nI rl), .int (nI ps)])), (ab, .inl (cI, 4096, .inl (rf_p f (rf_tv f rl ps y q) (y * rl) (y * rl + rl))))] := hD
  refine W.widen (k := 0) (n := 0) (Nat.le_refl _) (Nat.le_refl _) ?_
  refine lv_goto (tgt := 12) hx hb dL_filter_6 (by decide) ?_
  refine lv_iconst (v := 0) hx hb dL_filter_12 (by decide) ?_
  exact W.iret (v := 0) hx hb hr (fun t ht hW => ⟨⟨0, (), rfl, rfl, by rw [ht]; exact hP, va_K.moved hW.alike hK, hD⟩, hS.F ht⟩) hS.2.2 dL_filter_13
set_option maxHeartbeats 4000000 in
set_option maxRecDepth 100000 in
theorem c_L_plain (l : Launch) (dC : Nat → ClassId) (dI : Nat → Nat → Nat) (cI : ClassId) (h0 ab rc rl ps : Nat) (f : Nat → Int32) (sz : Nat) (y q : Nat) (ok : rf_ok rc rl ps) (hy : y < rc) (hq : q ≤ 4) : Met l yL_plain wsL_plain ({ frames := 5, cells := 0, slots := 0, locals := 110 }) (va_Pc [.ref h0, .int (nI y), .int (nI q)] (fun U => rw_preD dC dI cI h0 ab rc rl ps f sz U)) (va_Qi (fun (r : Int32) (_ : Unit) => r = 0) (fun _ t9 => rw_B dC dI cI h0 ab rc rl ps (rf_U f rl ps y q rl) (va_A (rw_W h0 ab cI rc rl ps f) sz) t9) (va_A (rw_W h0 ab cI rc rl ps f) sz)) 0 0 (va_A (rw_W h0 ab cI rc rl ps f) sz) := by
  refine va_MetW (cc := cL_plain) (maxL := 4) (ret := some .int) (by decide) rfl ?_
  intro p e s m args below meth c s₁ B hml hv
  obtain ⟨rfl, hsz, hP, hK, hD0⟩ := hv
  have hx := B.exec
  have hb := B.bytes
  have hr := B.returns
  have hts := atoms_spec (ws := wsL_plain) B.pre
  have hown : s.vm.findClass RL = some m.cls := findClass_of_methodNamed B.named
  have hlocks := B.notSynchronized
  subst hsz
  have hD := hD0.self (sz := s.heap.size)
  generalize hAe : va_A (rw_W h0 ab cI rc rl ps f) s.heap.size = A at hD ⊢
  have hA : ∀ q : Nat, s.heap.size ≤ q → A q := fun q h => by rw [← hAe]; exact Or.inr h
  have hS : va_S A s.heap s.heap [] := va_S.rf
  have hP : va_P (dC, dI) rw_cl (rw_W h0 ab cI rc rl ps f) s.heap := hP
  have hl := lv_entry ([.ref h0, .int (nI y), .int (nI q)]) (n := 4) (Nat.le_of_ble_eq_true rfl)
  rw [lg_entry_eq]
  generalize (lg_sl ([.ref h0, .int (nI y), .int (nI q)]) ++ List.replicate (4 - (lg_sl ([.ref h0, .int (nI y), .int (nI q)])).length) Slot.unset).toArray = ls at hl ⊢
  have hl : lv_has ls 4 [(0, .ref h0), (1, .int (nI y)), (2, .int (nI q))] := hl
  refine lv_aload_n hx hb dL_plain_0 rfl (lv_at hl 0 rfl) ?_
  refine lv_iload_n hx hb dL_plain_1 rfl (lv_at hl 1 rfl) ?_
  refine lv_iload_n hx hb dL_plain_2 rfl (lv_at hl 2 rfl) ?_
  have hFc := va_free (wc := [(h0, .inr (0, [.ref ab, .int (nI rc), .int (nI rl), .int (nI ps)])), (ab, .inl (cI, 4096, .inl f))]) hD hS hA [0, 1] rfl
  refine va_callv (va_runV (C := RX0) (As := [.int (nI y), .int (nI q)]) (rest := []) ⟨hx, hb, hml, hown, hts⟩ (c_X0_plain l dC dI cI h0 ab rc rl ps f s.heap.size y q ok hy hq) (cwV 2 hts gL_plain_X0_plain rfl rfl rfl (by decide +kernel) ⟨Nat.le_of_ble_eq_true rfl, Nat.le_of_ble_eq_true rfl⟩) ⟨fun a U g mk q => by obtain ⟨q0, q1, qP, qK, qD⟩ := q; exact ⟨q0, q1, qP, va_K.moved (u := U) (U := U.calling g mk a) (Vm.Alike.refl U.vm) qK, qD⟩, va_recv hK hP (ci := 0) (q0 := 0) rfl rfl, fun U hU hW => ⟨rfl, by rw [hU], by rw [hU]; exact hP, va_K.moved hW.alike hK, hD.weaken (fun _ _ _ _ => trivial)⟩⟩ rfl rfl hl.1 rfl (lv_room (Nat.le_of_ble_eq_true rfl)) dL_plain_3 ⟨Nat.zero_le _, Nat.zero_le _⟩) hS (fun q _ h => hFc q h) hFc (fun u t9 H1 locs ht hvm hw hB hz1 hk1 hS => ?_)
  obtain ⟨hP1, hK1, hD1⟩ := hB
  rw [ht] at hP1
  obtain ⟨hP, hD⟩ := va_join (wr := []) (w1 := [(h0, .inr (0, [.ref ab, .int (nI rc), .int (nI rl), .int (nI ps)])), (ab, .inl (cI, 4096, .inl (rf_U f rl ps y q rl)))]) hP hD [0, 1] [] rfl rfl (by decide) (by decide) hk1 hFc hP1 hD1
  generalize H1 = H at hP hS ⊢
  have hP : va_P (dC, dI) rw_cl [(h0, .inr (0, [.ref ab, .int (nI rc), .int (nI rl), .int (nI ps)])), (ab, .inl (cI, 4096, .inl (rf_U f rl ps y q rl)))] H := hP
  have hD : va_D A [(h0, .inr (0, [.ref ab, .int (nI rc), .int (nI rl), .int (nI ps)])), (ab, .inl (cI, 4096, .inl (rf_U f rl ps y q rl)))] := hD
  refine W.widen (k := 0) (n := 0) (Nat.le_refl _) (Nat.le_refl _) ?_
  refine lv_goto (tgt := 12) hx hb dL_plain_6 (by decide) ?_
  refine lv_iconst (v := 0) hx hb dL_plain_12 (by decide) ?_
  exact W.iret (v := 0) hx hb hr (fun t ht hW => ⟨⟨0, (), rfl, rfl, by rw [ht]; exact hP, va_K.moved hW.alike hK, hD⟩, hS.F ht⟩) hS.2.2 dL_plain_13
set_option maxHeartbeats 4000000 in
set_option maxRecDepth 100000 in
theorem c_L_undo (l : Launch) (dC : Nat → ClassId) (dI : Nat → Nat → Nat) (cI : ClassId) (h0 ab rc rl ps : Nat) (f : Nat → Int32) (sz : Nat) (n : Nat) (ok : rf_ok rc rl ps) (hn : n ≤ 390624) : Met l yL_undo wsL_undo ({ frames := 5, cells := 0, slots := 0, locals := 112 }) (va_Pc [.ref h0, .int (nI n)] (fun U => rw_preD dC dI cI h0 ab rc rl ps f sz U)) (va_Qi (fun (r : Int32) (_ : Unit) => r = 0) (fun _ t9 => rw_B dC dI cI h0 ab rc rl ps (rf_D f rl ps n (min rc 8)) (va_A (rw_W h0 ab cI rc rl ps f) sz) t9) (va_A (rw_W h0 ab cI rc rl ps f) sz)) 0 0 (va_A (rw_W h0 ab cI rc rl ps f) sz) := by
  refine va_MetW (cc := cL_undo) (maxL := 3) (ret := some .int) (by decide) rfl ?_
  intro p e s m args below meth c s₁ B hml hv
  obtain ⟨rfl, hsz, hP, hK, hD0⟩ := hv
  have hx := B.exec
  have hb := B.bytes
  have hr := B.returns
  have hts := atoms_spec (ws := wsL_undo) B.pre
  have hown : s.vm.findClass RL = some m.cls := findClass_of_methodNamed B.named
  have hlocks := B.notSynchronized
  subst hsz
  have hD := hD0.self (sz := s.heap.size)
  generalize hAe : va_A (rw_W h0 ab cI rc rl ps f) s.heap.size = A at hD ⊢
  have hA : ∀ q : Nat, s.heap.size ≤ q → A q := fun q h => by rw [← hAe]; exact Or.inr h
  have hS : va_S A s.heap s.heap [] := va_S.rf
  have hP : va_P (dC, dI) rw_cl (rw_W h0 ab cI rc rl ps f) s.heap := hP
  have hl := lv_entry ([.ref h0, .int (nI n)]) (n := 3) (Nat.le_of_ble_eq_true rfl)
  rw [lg_entry_eq]
  generalize (lg_sl ([.ref h0, .int (nI n)]) ++ List.replicate (3 - (lg_sl ([.ref h0, .int (nI n)])).length) Slot.unset).toArray = ls at hl ⊢
  have hl : lv_has ls 3 [(0, .ref h0), (1, .int (nI n))] := hl
  refine lv_aload_n hx hb dL_undo_0 rfl (lv_at hl 0 rfl) ?_
  refine lv_iload_n hx hb dL_undo_1 rfl (lv_at hl 1 rfl) ?_
  have hFc := va_free (wc := [(h0, .inr (0, [.ref ab, .int (nI rc), .int (nI rl), .int (nI ps)])), (ab, .inl (cI, 4096, .inl f))]) hD hS hA [0, 1] rfl
  refine va_callv (va_runV (C := RX0) (As := [.int (nI n)]) (rest := []) ⟨hx, hb, hml, hown, hts⟩ (c_X0_undo l dC dI cI h0 ab rc rl ps f s.heap.size n ok hn) (cwV 1 hts gL_undo_X0_undo rfl rfl rfl (by decide +kernel) ⟨Nat.le_of_ble_eq_true rfl, Nat.le_of_ble_eq_true rfl⟩) ⟨fun a U g mk q => by obtain ⟨q0, q1, qP, qK, qD⟩ := q; exact ⟨q0, q1, qP, va_K.moved (u := U) (U := U.calling g mk a) (Vm.Alike.refl U.vm) qK, qD⟩, va_recv hK hP (ci := 0) (q0 := 0) rfl rfl, fun U hU hW => ⟨rfl, by rw [hU], by rw [hU]; exact hP, va_K.moved hW.alike hK, hD.weaken (fun _ _ _ _ => trivial)⟩⟩ rfl rfl hl.1 rfl (lv_room (Nat.le_of_ble_eq_true rfl)) dL_undo_2 ⟨Nat.zero_le _, Nat.zero_le _⟩) hS (fun q _ h => hFc q h) hFc (fun u t9 H1 locs ht hvm hw hB hz1 hk1 hS => ?_)
  obtain ⟨hP1, hK1, hD1⟩ := hB
  rw [ht] at hP1
  obtain ⟨hP, hD⟩ := va_join (wr := []) (w1 := [(h0, .inr (0, [.ref ab, .int (nI rc), .int (nI rl), .int (nI ps)])), (ab, .inl (cI, 4096, .inl (rf_D f rl ps n (min rc 8))))]) hP hD [0, 1] [] rfl rfl (by decide) (by decide) hk1 hFc hP1 hD1
  generalize H1 = H at hP hS ⊢
  have hP : va_P (dC, dI) rw_cl [(h0, .inr (0, [.ref ab, .int (nI rc), .int (nI rl), .int (nI ps)])), (ab, .inl (cI, 4096, .inl (rf_D f rl ps n (min rc 8))))] H := hP
  have hD : va_D A [(h0, .inr (0, [.ref ab, .int (nI rc), .int (nI rl), .int (nI ps)])), (ab, .inl (cI, 4096, .inl (rf_D f rl ps n (min rc 8))))] := hD
  refine W.widen (k := 0) (n := 0) (Nat.le_refl _) (Nat.le_refl _) ?_
  refine lv_goto (tgt := 11) hx hb dL_undo_5 (by decide) ?_
  refine lv_iconst (v := 0) hx hb dL_undo_11 (by decide) ?_
  exact W.iret (v := 0) hx hb hr (fun t ht hW => ⟨⟨0, (), rfl, rfl, by rw [ht]; exact hP, va_K.moved hW.alike hK, hD⟩, hS.F ht⟩) hS.2.2 dL_undo_12
set_option maxHeartbeats 4000000 in
set_option maxRecDepth 100000 in
theorem c_L_pass (l : Launch) (dC : Nat → ClassId) (dI : Nat → Nat → Nat) (cI : ClassId) (h0 ab rc rl ps : Nat) (f : Nat → Int32) (cL : ClassId) (oa : Nat) (o : Nat → Int64) (sz : Nat) (k w h : Nat) (b : Int32) (hk : k ≤ 6) (hw1 : 1 ≤ w) (hw2 : w ≤ 100000) (hh1 : 1 ≤ h) (hh2 : h ≤ 100000) (t1 t2 t3 t4 : Nat) : Met l yL_pass wsL_pass ({ frames := 2, cells := 0, slots := 0, locals := 48 }) (va_Pc [.ref h0, .int (nI k), .int (nI w), .int (nI h), .int b, .ref oa] (fun U => rw_st t1 t2 t3 t4 U ∧ rl_preD dC dI cI h0 ab rc rl ps f cL oa o sz U)) (va_Qi (fun (r : Int32) (_ : Unit) => r = 0) (fun _ t9 => rl_B dC dI cI h0 ab rc rl ps (f) cL oa (vp_updL o 0 (rf_pr k w h b).toInt64) (va_A (rl_W h0 ab cI rc rl ps f cL oa o) sz) t9) (va_A (rl_W h0 ab cI rc rl ps f cL oa o) sz)) 0 0 (va_A (rl_W h0 ab cI rc rl ps f cL oa o) sz) := by
  refine va_MetW (cc := cL_pass) (maxL := 7) (ret := some .int) (by decide) rfl ?_
  intro p e s m args below meth c s₁ B hml hv
  obtain ⟨rfl, hZ, hsz, hP, hK, hD0⟩ := hv
  have hx := B.exec
  have hb := B.bytes
  have hr := B.returns
  have hts := atoms_spec (ws := wsL_pass) B.pre
  have hown : s.vm.findClass RL = some m.cls := findClass_of_methodNamed B.named
  have hlocks := B.notSynchronized
  subst hsz
  have hD := hD0.self (sz := s.heap.size)
  generalize hAe : va_A (rl_W h0 ab cI rc rl ps f cL oa o) s.heap.size = A at hD ⊢
  have hA : ∀ q : Nat, s.heap.size ≤ q → A q := fun q h => by rw [← hAe]; exact Or.inr h
  have hS : va_S A s.heap s.heap [] := va_S.rf
  have hP : va_P (dC, dI) rw_cl (rl_W h0 ab cI rc rl ps f cL oa o) s.heap := hP
  have hl := lv_entry ([.ref h0, .int (nI k), .int (nI w), .int (nI h), .int b, .ref oa]) (n := 7) (Nat.le_of_ble_eq_true rfl)
  rw [lg_entry_eq]
  generalize (lg_sl ([.ref h0, .int (nI k), .int (nI w), .int (nI h), .int b, .ref oa]) ++ List.replicate (7 - (lg_sl ([.ref h0, .int (nI k), .int (nI w), .int (nI h), .int b, .ref oa])).length) Slot.unset).toArray = ls at hl ⊢
  have hl : lv_has ls 7 [(0, .ref h0), (1, .int (nI k)), (2, .int (nI w)), (3, .int (nI h)), (4, .int b), (5, .ref oa)] := hl
  refine lv_aload hx hb dL_pass_0 (lv_at hl 5 rfl) ?_
  refine lv_iconst (v := 0) hx hb dL_pass_2 (by decide) ?_
  refine lv_aload_n hx hb dL_pass_3 rfl (lv_at hl 0 rfl) ?_
  refine lv_iload_n hx hb dL_pass_4 rfl (lv_at hl 1 rfl) ?_
  refine lv_iload_n hx hb dL_pass_5 rfl (lv_at hl 2 rfl) ?_
  refine lv_iload_n hx hb dL_pass_6 rfl (lv_at hl 3 rfl) ?_
  refine lv_iload hx hb dL_pass_7 (lv_at hl 4 rfl) ?_
  refine vp_callSi (W.runV (C := RX0) (As := [.int (nI k), .int (nI w), .int (nI h), .int b]) (rest := [.int 0, .ref oa]) ⟨hx, hb, hml, hown, hts⟩ (c_X0_pass l t1 t2 t3 t4 h0 k w h b hk hw1 hw2 hh1 hh2) (cwV 4 hts gL_pass_X0_pass rfl rfl rfl (by decide +kernel) ⟨Nat.le_of_ble_eq_true rfl, Nat.le_of_ble_eq_true rfl⟩) ⟨fun a U g mk q => ⟨q.1, rw_st.call q.2⟩, va_recv hK hP (ci := 0) (q0 := 0) rfl rfl, fun U hU hW => ⟨rfl, rw_st.to hZ va_S.rf hU hW⟩⟩ rfl rfl hl.1 rfl (lv_room (Nat.le_of_ble_eq_true rfl)) dL_pass_9 ⟨Nat.zero_le _, Nat.zero_le _⟩) (fun r er => ?_)
  subst er
  refine lv_i2l hx hb dL_pass_12 rfl ?_
  refine va_last hx hb hK hP hD hS 2 1 rfl rfl (vp_in_nI (n := 0) (by omega) (by omega)) dL_pass_13 (fun H locs hP hD hS => ?_)
  rw [show (0 : Int32).toNatClampNeg = 0 from by decide] at hP hD
  have hP : va_P (dC, dI) rw_cl [(h0, .inr (0, [.ref ab, .int (nI rc), .int (nI rl), .int (nI ps)])), (ab, .inl (cI, 4096, .inl f)), (oa, .inl (cL, 1, .inr (.inl (vp_updL o 0 ((rf_pr k w h b).toInt64)))))] H := hP
  have hD : va_D A [(h0, .inr (0, [.ref ab, .int (nI rc), .int (nI rl), .int (nI ps)])), (ab, .inl (cI, 4096, .inl f)), (oa, .inl (cL, 1, .inr (.inl (vp_updL o 0 ((rf_pr k w h b).toInt64)))))] := hD
  refine lv_goto (tgt := 21) hx hb dL_pass_14 (by decide) ?_
  refine lv_iconst (v := 0) hx hb dL_pass_21 (by decide) ?_
  exact W.iret (v := 0) hx hb hr (fun t ht hW => ⟨⟨0, (), rfl, rfl, by rw [ht]; exact hP, va_K.moved hW.alike hK, hD⟩, hS.F ht⟩) hS.2.2 dL_pass_22
set_option maxHeartbeats 4000000 in
set_option maxRecDepth 100000 in
theorem c_L_passOf (l : Launch) (dC : Nat → ClassId) (dI : Nat → Nat → Nat) (cI : ClassId) (h0 ab rc rl ps : Nat) (f : Nat → Int32) (cL : ClassId) (oa : Nat) (o : Nat → Int64) (sz : Nat) (x y k9 : Nat) (hx9 : x ≤ 99999) (hy9 : y ≤ 99999) (hk9 : rf_po x y k9) (t1 t2 t3 t4 : Nat) : Met l yL_passOf wsL_passOf ({ frames := 2, cells := 0, slots := 0, locals := 45 }) (va_Pc [.ref h0, .int (nI x), .int (nI y), .ref oa] (fun U => rw_st t1 t2 t3 t4 U ∧ rl_preD dC dI cI h0 ab rc rl ps f cL oa o sz U)) (va_Qi (fun (r : Int32) (_ : Unit) => r = 0) (fun _ t9 => rl_B dC dI cI h0 ab rc rl ps (f) cL oa (vp_updL o 0 (nI k9).toInt64) (va_A (rl_W h0 ab cI rc rl ps f cL oa o) sz) t9) (va_A (rl_W h0 ab cI rc rl ps f cL oa o) sz)) 0 0 (va_A (rl_W h0 ab cI rc rl ps f cL oa o) sz) := by
  refine va_MetW (cc := cL_passOf) (maxL := 5) (ret := some .int) (by decide) rfl ?_
  intro p e s m args below meth c s₁ B hml hv
  obtain ⟨rfl, hZ, hsz, hP, hK, hD0⟩ := hv
  have hx := B.exec
  have hb := B.bytes
  have hr := B.returns
  have hts := atoms_spec (ws := wsL_passOf) B.pre
  have hown : s.vm.findClass RL = some m.cls := findClass_of_methodNamed B.named
  have hlocks := B.notSynchronized
  subst hsz
  have hD := hD0.self (sz := s.heap.size)
  generalize hAe : va_A (rl_W h0 ab cI rc rl ps f cL oa o) s.heap.size = A at hD ⊢
  have hA : ∀ q : Nat, s.heap.size ≤ q → A q := fun q h => by rw [← hAe]; exact Or.inr h
  have hS : va_S A s.heap s.heap [] := va_S.rf
  have hP : va_P (dC, dI) rw_cl (rl_W h0 ab cI rc rl ps f cL oa o) s.heap := hP
  have hl := lv_entry ([.ref h0, .int (nI x), .int (nI y), .ref oa]) (n := 5) (Nat.le_of_ble_eq_true rfl)
  rw [lg_entry_eq]
  generalize (lg_sl ([.ref h0, .int (nI x), .int (nI y), .ref oa]) ++ List.replicate (5 - (lg_sl ([.ref h0, .int (nI x), .int (nI y), .ref oa])).length) Slot.unset).toArray = ls at hl ⊢
  have hl : lv_has ls 5 [(0, .ref h0), (1, .int (nI x)), (2, .int (nI y)), (3, .ref oa)] := hl
  refine lv_aload_n hx hb dL_passOf_0 rfl (lv_at hl 3 rfl) ?_
  refine lv_iconst (v := 0) hx hb dL_passOf_1 (by decide) ?_
  refine lv_aload_n hx hb dL_passOf_2 rfl (lv_at hl 0 rfl) ?_
  refine lv_iload_n hx hb dL_passOf_3 rfl (lv_at hl 1 rfl) ?_
  refine lv_iload_n hx hb dL_passOf_4 rfl (lv_at hl 2 rfl) ?_
  refine vp_callSi (W.runV (C := RX0) (As := [.int (nI x), .int (nI y)]) (rest := [.int 0, .ref oa]) ⟨hx, hb, hml, hown, hts⟩ (c_X0_passOf l t1 t2 t3 t4 h0 x y hx9 hy9) (cwV 2 hts gL_passOf_X0_passOf rfl rfl rfl (by decide +kernel) ⟨Nat.le_of_ble_eq_true rfl, Nat.le_of_ble_eq_true rfl⟩) ⟨fun a U g mk q => ⟨q.1, rw_st.call q.2⟩, va_recv hK hP (ci := 0) (q0 := 0) rfl rfl, fun U hU hW => ⟨rfl, rw_st.to hZ va_S.rf hU hW⟩⟩ rfl rfl hl.1 rfl (lv_room (Nat.le_of_ble_eq_true rfl)) dL_passOf_5 ⟨Nat.zero_le _, Nat.zero_le _⟩) (fun r er => ?_)
  obtain ⟨k8, er, hk8⟩ := er
  have er : r = nI k9 := by rw [er, rf_po_u hk8 hk9]
  subst er
  refine lv_i2l hx hb dL_passOf_8 rfl ?_
  refine va_last hx hb hK hP hD hS 2 1 rfl rfl (vp_in_nI (n := 0) (by omega) (by omega)) dL_passOf_9 (fun H locs hP hD hS => ?_)
  rw [show (0 : Int32).toNatClampNeg = 0 from by decide] at hP hD
  have hP : va_P (dC, dI) rw_cl [(h0, .inr (0, [.ref ab, .int (nI rc), .int (nI rl), .int (nI ps)])), (ab, .inl (cI, 4096, .inl f)), (oa, .inl (cL, 1, .inr (.inl (vp_updL o 0 ((nI k9).toInt64)))))] H := hP
  have hD : va_D A [(h0, .inr (0, [.ref ab, .int (nI rc), .int (nI rl), .int (nI ps)])), (ab, .inl (cI, 4096, .inl f)), (oa, .inl (cL, 1, .inr (.inl (vp_updL o 0 ((nI k9).toInt64)))))] := hD
  refine lv_goto (tgt := 17) hx hb dL_passOf_10 (by decide) ?_
  refine lv_iconst (v := 0) hx hb dL_passOf_17 (by decide) ?_
  exact W.iret (v := 0) hx hb hr (fun t ht hW => ⟨⟨0, (), rfl, rfl, by rw [ht]; exact hP, va_K.moved hW.alike hK, hD⟩, hS.F ht⟩) hS.2.2 dL_passOf_18
end
section
set_option maxHeartbeats 4000000 in
set_option maxRecDepth 100000 in
theorem c_L_open_bad (l : Launch) (hl9 : l.stackTraces = false) (sa : Nat) (dC : Nat → ClassId) (dI : Nat → Nat → Nat) (cI : ClassId) (h0 ab rc rl ps : Nat) (f : Nat → Int32) (sz : Nat) (h n z : Int32) (hb0 : ¬ rf_op h n z) : Met l yL_open wsL_open ({ frames := 8, cells := 1, slots := 6, locals := 127 }) (va_Pc [.ref h0, .int h, .int n, .int z] (fun U => rw_XA (fun q => sz ≤ q) sa U U.heap ∧ rw_preD dC dI cI h0 ab rc rl ps f sz U)) (va_Qi (fun (r : Int32) (_ : Unit) => r = 1) (fun _ t9 => rw_B dC dI cI h0 ab rc rl ps (f) (va_A (rw_W h0 ab cI rc rl ps f) sz) t9) (va_A (rw_W h0 ab cI rc rl ps f) sz)) 1 6 (va_A (rw_W h0 ab cI rc rl ps f) sz) := by
  refine va_MetW (cc := cL_open) (maxL := 5) (ret := some .int) (by decide) rfl ?_
  intro p e s m args below meth c s₁ B hml hv
  obtain ⟨rfl, hX, hsz, hP, hK, hD0⟩ := hv
  have hx := B.exec
  have hb := B.bytes
  have hr := B.returns
  have hts := atoms_spec (ws := wsL_open) B.pre
  have hown : s.vm.findClass RL = some m.cls := findClass_of_methodNamed B.named
  have hlocks := B.notSynchronized
  subst hsz
  have hD := hD0.self (sz := s.heap.size)
  generalize hAe : va_A (rw_W h0 ab cI rc rl ps f) s.heap.size = A at hD ⊢
  have hA : ∀ q : Nat, s.heap.size ≤ q → A q := fun q h => by rw [← hAe]; exact Or.inr h
  have hS : va_S A s.heap s.heap [] := va_S.rf
  have hP : va_P (dC, dI) rw_cl (rw_W h0 ab cI rc rl ps f) s.heap := hP
  have hl := lv_entry ([.ref h0, .int h, .int n, .int z]) (n := 5) (Nat.le_of_ble_eq_true rfl)
  rw [lg_entry_eq]
  generalize (lg_sl ([.ref h0, .int h, .int n, .int z]) ++ List.replicate (5 - (lg_sl ([.ref h0, .int h, .int n, .int z])).length) Slot.unset).toArray = ls at hl ⊢
  have hl : lv_has ls 5 [(0, .ref h0), (1, .int h), (2, .int n), (3, .int z)] := hl
  refine lv_aload_n hx hb dL_open_0 rfl (lv_at hl 0 rfl) ?_
  refine lv_iload_n hx hb dL_open_1 rfl (lv_at hl 1 rfl) ?_
  refine lv_iload_n hx hb dL_open_2 rfl (lv_at hl 2 rfl) ?_
  refine lv_iload_n hx hb dL_open_3 rfl (lv_at hl 3 rfl) ?_
  refine vx_callv (vx_runV (C := RX0) (As := [.int h, .int n, .int z]) (rest := []) ⟨hx, hb, hml, hown, hts⟩ (c_X0_open_x l hl9 s.heap.size sa dC dI cI h0 ab rc rl ps f h n z hb0) (cwV 3 hts gL_open_X0_open rfl rfl rfl (by decide +kernel) ⟨Nat.le_of_ble_eq_true rfl, Nat.le_of_ble_eq_true rfl⟩) ⟨fun a U g mk q => by obtain ⟨q0, q1, qX, qP, qK⟩ := q; exact ⟨q0, q1, rw_XA.call qX, qP, va_K.moved (u := U) (U := U.calling g mk a) (Vm.Alike.refl U.vm) qK⟩, va_recv hK hP (ci := 0) (q0 := 0) rfl rfl, fun U hU hW => ⟨rfl, by rw [hU], rw_XA.go hX hU hW, by rw [hU]; exact hP, va_K.moved hW.alike hK⟩⟩ rfl rfl hl.1 rfl (lv_room (Nat.le_of_ble_eq_true rfl)) dL_open_4 ⟨Nat.le_refl _, Nat.le_refl _⟩) hS (fun q _ h => hA q h) (fun q h => hA q h) (fun q _ h => hA q h) (fun E ce q9 u t9 H1 locs ht hvm hpx hE hz1 hk1 hS hc1 hc2 hc3 => ?_) (fun u t9 H1 locs ht hvm hw hB hz1 hk1 hS => hw.elim)
  have hE : E = "java/lang/IllegalArgumentException" := hE
  subst hE
  have hP := hP.kept (H1 := H1) (fun k q hk => hk1 q.1 (vx_lt hP hk) (Nat.not_le.mpr (vx_lt hP hk)))
  generalize H1 = H at hP hS hc1 ⊢
  have hP : va_P (dC, dI) rw_cl [(h0, .inr (0, [.ref ab, .int (nI rc), .int (nI rl), .int (nI ps)])), (ab, .inl (cI, 4096, .inl f))] H := hP
  have hD : va_D A [(h0, .inr (0, [.ref ab, .int (nI rc), .int (nI rl), .int (nI ps)])), (ab, .inl (cI, 4096, .inl f))] := hD
  refine vx_catch hown [] _ [] (vx_table (x := yL_open) B (hts (.codeWith yL_open cL_open 5 (some .int) [(0, 7, 10, 13)]) List.mem_cons_self)) (fun z h => by cases h) (by decide) (by decide) (hts (.classLink RL 13 "java/lang/IllegalArgumentException") (by decide +kernel)) (va_Nw.use rfl hX.2.2.2.1) hc1 hc2 hc3 ?_
  refine W.eq (g2 := F0 m 10 ls [.ref q9]) rfl ?_
  refine lv_astore hx hb dL_open_10 hl (by decide) rfl (fun ls hl => ?_)
  have hl : lv_has ls 5 [(4, .ref q9), (0, .ref h0), (1, .int h), (2, .int n), (3, .int z)] := hl
  refine lv_iconst (v := 1) hx hb dL_open_12 (by decide) ?_
  exact W.iret (v := 1) hx hb hr (fun t ht hW => ⟨⟨1, (), rfl, rfl, by rw [ht]; exact hP, va_K.moved hW.alike hK, hD⟩, hS.F ht⟩) hS.2.2 dL_open_13
set_option maxHeartbeats 4000000 in
set_option maxRecDepth 100000 in
theorem c_L_set_bad (l : Launch) (hl9 : l.stackTraces = false) (sa : Nat) (dC : Nat → ClassId) (dI : Nat → Nat → Nat) (cI : ClassId) (h0 ab rc rl ps : Nat) (f : Nat → Int32) (cL : ClassId) (oa : Nat) (o : Nat → Int64) (sz : Nat) (y i v : Int32) (hb0 : ((y < 0 ∨ nI rc - 1 < y) ∨ (i < 0 ∨ nI rl - 1 < i)) ∨ (v < 0 ∨ 255 < v)) : Met l yL_set wsL_set ({ frames := 10, cells := 1, slots := 6, locals := 172 }) (va_Pc [.ref h0, .int y, .int i, .int v, .ref oa] (fun U => rw_XA (fun q => sz ≤ q) sa U U.heap ∧ rl_preD dC dI cI h0 ab rc rl ps f cL oa o sz U)) (va_Qi (fun (r : Int32) (_ : Unit) => r = 1) (fun _ t9 => rl_B dC dI cI h0 ab rc rl ps f cL oa o (va_A (rl_W h0 ab cI rc rl ps f cL oa o) sz) t9) (va_A (rl_W h0 ab cI rc rl ps f cL oa o) sz)) 1 6 (va_A (rl_W h0 ab cI rc rl ps f cL oa o) sz) := by
  refine va_MetW (cc := cL_set) (maxL := 6) (ret := some .int) (by decide) rfl ?_
  intro p e s m args below meth c s₁ B hml hv
  obtain ⟨rfl, hX, hsz, hP, hK, hD0⟩ := hv
  have hx := B.exec
  have hb := B.bytes
  have hr := B.returns
  have hts := atoms_spec (ws := wsL_set) B.pre
  have hown : s.vm.findClass RL = some m.cls := findClass_of_methodNamed B.named
  have hlocks := B.notSynchronized
  subst hsz
  have hD := hD0.self (sz := s.heap.size)
  generalize hAe : va_A (rl_W h0 ab cI rc rl ps f cL oa o) s.heap.size = A at hD ⊢
  have hA : ∀ q : Nat, s.heap.size ≤ q → A q := fun q h => by rw [← hAe]; exact Or.inr h
  have hS : va_S A s.heap s.heap [] := va_S.rf
  have hP : va_P (dC, dI) rw_cl (rl_W h0 ab cI rc rl ps f cL oa o) s.heap := hP
  have hl := lv_entry ([.ref h0, .int y, .int i, .int v, .ref oa]) (n := 6) (Nat.le_of_ble_eq_true rfl)
  rw [lg_entry_eq]
  generalize (lg_sl ([.ref h0, .int y, .int i, .int v, .ref oa]) ++ List.replicate (6 - (lg_sl ([.ref h0, .int y, .int i, .int v, .ref oa])).length) Slot.unset).toArray = ls at hl ⊢
  have hl : lv_has ls 6 [(0, .ref h0), (1, .int y), (2, .int i), (3, .int v), (4, .ref oa)] := hl
  refine lv_aload hx hb dL_set_0 (lv_at hl 4 rfl) ?_
  refine lv_iconst (v := 0) hx hb dL_set_2 (by decide) ?_
  refine lv_aload_n hx hb dL_set_3 rfl (lv_at hl 0 rfl) ?_
  refine lv_iload_n hx hb dL_set_4 rfl (lv_at hl 1 rfl) ?_
  refine lv_iload_n hx hb dL_set_5 rfl (lv_at hl 2 rfl) ?_
  refine lv_iload_n hx hb dL_set_6 rfl (lv_at hl 3 rfl) ?_
  have hPc := hP.sub (ws' := [(h0, .inr (0, [.ref ab, .int (nI rc), .int (nI rl), .int (nI ps)])), (ab, .inl (cI, 4096, .inl f))]) [0, 1] rfl
  have hKc := hK.sub (tys' := [(cI, .int)]) [0] rfl
  refine vx_calli (vx_runV (C := RX0) (As := [.int y, .int i, .int v]) (rest := [.int 0, .ref oa]) ⟨hx, hb, hml, hown, hts⟩ (c_X0_set_x l hl9 s.heap.size sa dC dI cI h0 ab rc rl ps f y i v hb0) (cwV 3 hts gL_set_X0_set rfl rfl rfl (by decide +kernel) ⟨Nat.le_of_ble_eq_true rfl, Nat.le_of_ble_eq_true rfl⟩) ⟨fun a U g mk q => by obtain ⟨q0, q1, qX, qP, qK⟩ := q; exact ⟨q0, q1, rw_XA.call qX, qP, va_K.moved (u := U) (U := U.calling g mk a) (Vm.Alike.refl U.vm) qK⟩, va_recv hK hP (ci := 0) (q0 := 0) rfl rfl, fun U hU hW => ⟨rfl, by rw [hU], rw_XA.go hX hU hW, by rw [hU]; exact hPc, va_K.moved hW.alike hKc⟩⟩ rfl rfl hl.1 rfl (lv_room (Nat.le_of_ble_eq_true rfl)) dL_set_7 ⟨Nat.le_refl _, Nat.le_refl _⟩) hS (fun q _ h => hA q h) (fun q h => hA q h) (fun q _ h => hA q h) (fun E ce q9 u t9 H1 locs ht hvm hpx hE hz1 hk1 hS hc1 hc2 hc3 => ?_) (fun r9 u t9 H1 locs ht hvm hw hB hz1 hk1 hS => hw.elim)
  have hE : E = "java/lang/IllegalArgumentException" := hE
  subst hE
  have hP := hP.kept (H1 := H1) (fun k q hk => hk1 q.1 (vx_lt hP hk) (Nat.not_le.mpr (vx_lt hP hk)))
  generalize H1 = H at hP hS hc1 ⊢
  have hP : va_P (dC, dI) rw_cl [(h0, .inr (0, [.ref ab, .int (nI rc), .int (nI rl), .int (nI ps)])), (ab, .inl (cI, 4096, .inl f)), (oa, .inl (cL, 1, .inr (.inl o)))] H := hP
  have hD : va_D A [(h0, .inr (0, [.ref ab, .int (nI rc), .int (nI rl), .int (nI ps)])), (ab, .inl (cI, 4096, .inl f)), (oa, .inl (cL, 1, .inr (.inl o)))] := hD
  refine vx_catch hown [] _ [] (vx_table (x := yL_set) B (hts (.codeWith yL_set cL_set 6 (some .int) [(0, 12, 15, 13)]) List.mem_cons_self)) (fun z h => by cases h) (by decide) (by decide) (hts (.classLink RL 13 "java/lang/IllegalArgumentException") (by decide +kernel)) (va_Nw.use rfl hX.2.2.2.1) hc1 hc2 hc3 ?_
  refine W.eq (g2 := F0 m 15 ls [.ref q9]) rfl ?_
  refine lv_astore hx hb dL_set_15 hl (by decide) rfl (fun ls hl => ?_)
  have hl : lv_has ls 6 [(5, .ref q9), (0, .ref h0), (1, .int y), (2, .int i), (3, .int v), (4, .ref oa)] := hl
  refine lv_iconst (v := 1) hx hb dL_set_17 (by decide) ?_
  exact W.iret (v := 1) hx hb hr (fun t ht hW => ⟨⟨1, (), rfl, rfl, by rw [ht]; exact hP, va_K.moved hW.alike hK, hD⟩, hS.F ht⟩) hS.2.2 dL_set_18
set_option maxHeartbeats 4000000 in
set_option maxRecDepth 100000 in
theorem c_L_get_bad (l : Launch) (hl9 : l.stackTraces = false) (sa : Nat) (dC : Nat → ClassId) (dI : Nat → Nat → Nat) (cI : ClassId) (h0 ab rc rl ps : Nat) (f : Nat → Int32) (cL : ClassId) (oa : Nat) (o : Nat → Int64) (sz : Nat) (y i : Int32) (hb0 : (y < 0 ∨ nI rc - 1 < y) ∨ (i < 0 ∨ nI rl - 1 < i)) : Met l yL_get wsL_get ({ frames := 10, cells := 1, slots := 6, locals := 169 }) (va_Pc [.ref h0, .int y, .int i, .ref oa] (fun U => rw_XA (fun q => sz ≤ q) sa U U.heap ∧ rl_preD dC dI cI h0 ab rc rl ps f cL oa o sz U)) (va_Qi (fun (r : Int32) (_ : Unit) => r = 1) (fun _ t9 => rl_B dC dI cI h0 ab rc rl ps f cL oa o (va_A (rl_W h0 ab cI rc rl ps f cL oa o) sz) t9) (va_A (rl_W h0 ab cI rc rl ps f cL oa o) sz)) 1 6 (va_A (rl_W h0 ab cI rc rl ps f cL oa o) sz) := by
  refine va_MetW (cc := cL_get) (maxL := 5) (ret := some .int) (by decide) rfl ?_
  intro p e s m args below meth c s₁ B hml hv
  obtain ⟨rfl, hX, hsz, hP, hK, hD0⟩ := hv
  have hx := B.exec
  have hb := B.bytes
  have hr := B.returns
  have hts := atoms_spec (ws := wsL_get) B.pre
  have hown : s.vm.findClass RL = some m.cls := findClass_of_methodNamed B.named
  have hlocks := B.notSynchronized
  subst hsz
  have hD := hD0.self (sz := s.heap.size)
  generalize hAe : va_A (rl_W h0 ab cI rc rl ps f cL oa o) s.heap.size = A at hD ⊢
  have hA : ∀ q : Nat, s.heap.size ≤ q → A q := fun q h => by rw [← hAe]; exact Or.inr h
  have hS : va_S A s.heap s.heap [] := va_S.rf
  have hP : va_P (dC, dI) rw_cl (rl_W h0 ab cI rc rl ps f cL oa o) s.heap := hP
  have hl := lv_entry ([.ref h0, .int y, .int i, .ref oa]) (n := 5) (Nat.le_of_ble_eq_true rfl)
  rw [lg_entry_eq]
  generalize (lg_sl ([.ref h0, .int y, .int i, .ref oa]) ++ List.replicate (5 - (lg_sl ([.ref h0, .int y, .int i, .ref oa])).length) Slot.unset).toArray = ls at hl ⊢
  have hl : lv_has ls 5 [(0, .ref h0), (1, .int y), (2, .int i), (3, .ref oa)] := hl
  refine lv_aload_n hx hb dL_get_0 rfl (lv_at hl 3 rfl) ?_
  refine lv_iconst (v := 0) hx hb dL_get_1 (by decide) ?_
  refine lv_aload_n hx hb dL_get_2 rfl (lv_at hl 0 rfl) ?_
  refine lv_iload_n hx hb dL_get_3 rfl (lv_at hl 1 rfl) ?_
  refine lv_iload_n hx hb dL_get_4 rfl (lv_at hl 2 rfl) ?_
  have hPc := hP.sub (ws' := [(h0, .inr (0, [.ref ab, .int (nI rc), .int (nI rl), .int (nI ps)])), (ab, .inl (cI, 4096, .inl f))]) [0, 1] rfl
  have hKc := hK.sub (tys' := [(cI, .int)]) [0] rfl
  refine vx_calli (vx_runV (C := RX0) (As := [.int y, .int i]) (rest := [.int 0, .ref oa]) ⟨hx, hb, hml, hown, hts⟩ (c_X0_get_x l hl9 s.heap.size sa dC dI cI h0 ab rc rl ps f y i hb0) (cwV 2 hts gL_get_X0_get rfl rfl rfl (by decide +kernel) ⟨Nat.le_of_ble_eq_true rfl, Nat.le_of_ble_eq_true rfl⟩) ⟨fun a U g mk q => by obtain ⟨q0, q1, qX, qP, qK⟩ := q; exact ⟨q0, q1, rw_XA.call qX, qP, va_K.moved (u := U) (U := U.calling g mk a) (Vm.Alike.refl U.vm) qK⟩, va_recv hK hP (ci := 0) (q0 := 0) rfl rfl, fun U hU hW => ⟨rfl, by rw [hU], rw_XA.go hX hU hW, by rw [hU]; exact hPc, va_K.moved hW.alike hKc⟩⟩ rfl rfl hl.1 rfl (lv_room (Nat.le_of_ble_eq_true rfl)) dL_get_5 ⟨Nat.le_refl _, Nat.le_refl _⟩) hS (fun q _ h => hA q h) (fun q h => hA q h) (fun q _ h => hA q h) (fun E ce q9 u t9 H1 locs ht hvm hpx hE hz1 hk1 hS hc1 hc2 hc3 => ?_) (fun r9 u t9 H1 locs ht hvm hw hB hz1 hk1 hS => hw.elim)
  have hE : E = "java/lang/IllegalArgumentException" := hE
  subst hE
  have hP := hP.kept (H1 := H1) (fun k q hk => hk1 q.1 (vx_lt hP hk) (Nat.not_le.mpr (vx_lt hP hk)))
  generalize H1 = H at hP hS hc1 ⊢
  have hP : va_P (dC, dI) rw_cl [(h0, .inr (0, [.ref ab, .int (nI rc), .int (nI rl), .int (nI ps)])), (ab, .inl (cI, 4096, .inl f)), (oa, .inl (cL, 1, .inr (.inl o)))] H := hP
  have hD : va_D A [(h0, .inr (0, [.ref ab, .int (nI rc), .int (nI rl), .int (nI ps)])), (ab, .inl (cI, 4096, .inl f)), (oa, .inl (cL, 1, .inr (.inl o)))] := hD
  refine vx_catch hown [] _ [] (vx_table (x := yL_get) B (hts (.codeWith yL_get cL_get 5 (some .int) [(0, 10, 13, 13)]) List.mem_cons_self)) (fun z h => by cases h) (by decide) (by decide) (hts (.classLink RL 13 "java/lang/IllegalArgumentException") (by decide +kernel)) (va_Nw.use rfl hX.2.2.2.1) hc1 hc2 hc3 ?_
  refine W.eq (g2 := F0 m 13 ls [.ref q9]) rfl ?_
  refine lv_astore hx hb dL_get_13 hl (by decide) rfl (fun ls hl => ?_)
  have hl : lv_has ls 5 [(4, .ref q9), (0, .ref h0), (1, .int y), (2, .int i), (3, .ref oa)] := hl
  refine lv_iconst (v := 1) hx hb dL_get_15 (by decide) ?_
  exact W.iret (v := 1) hx hb hr (fun t ht hW => ⟨⟨1, (), rfl, rfl, by rw [ht]; exact hP, va_K.moved hW.alike hK, hD⟩, hS.F ht⟩) hS.2.2 dL_get_16
set_option maxHeartbeats 4000000 in
set_option maxRecDepth 100000 in
theorem c_L_filter_bad (l : Launch) (hl9 : l.stackTraces = false) (sa : Nat) (dC : Nat → ClassId) (dI : Nat → Nat → Nat) (cI : ClassId) (h0 ab rc rl ps : Nat) (f : Nat → Int32) (sz : Nat) (y q : Int32) (hb0 : (y < 0 ∨ nI rc - 1 < y) ∨ (q < 0 ∨ 4 < q)) : Met l yL_filter wsL_filter ({ frames := 9, cells := 1, slots := 6, locals := 147 }) (va_Pc [.ref h0, .int y, .int q] (fun U => rw_XA (fun q => sz ≤ q) sa U U.heap ∧ rw_preD dC dI cI h0 ab rc rl ps f sz U)) (va_Qi (fun (r : Int32) (_ : Unit) => r = 1) (fun _ t9 => rw_B dC dI cI h0 ab rc rl ps (f) (va_A (rw_W h0 ab cI rc rl ps f) sz) t9) (va_A (rw_W h0 ab cI rc rl ps f) sz)) 1 6 (va_A (rw_W h0 ab cI rc rl ps f) sz) := by
  refine va_MetW (cc := cL_filter) (maxL := 4) (ret := some .int) (by decide) rfl ?_
  intro p e s m args below meth c s₁ B hml hv
  obtain ⟨rfl, hX, hsz, hP, hK, hD0⟩ := hv
  have hx := B.exec
  have hb := B.bytes
  have hr := B.returns
  have hts := atoms_spec (ws := wsL_filter) B.pre
  have hown : s.vm.findClass RL = some m.cls := findClass_of_methodNamed B.named
  have hlocks := B.notSynchronized
  subst hsz
  have hD := hD0.self (sz := s.heap.size)
  generalize hAe : va_A (rw_W h0 ab cI rc rl ps f) s.heap.size = A at hD ⊢
  have hA : ∀ q : Nat, s.heap.size ≤ q → A q := fun q h => by rw [← hAe]; exact Or.inr h
  have hS : va_S A s.heap s.heap [] := va_S.rf
  have hP : va_P (dC, dI) rw_cl (rw_W h0 ab cI rc rl ps f) s.heap := hP
  have hl := lv_entry ([.ref h0, .int y, .int q]) (n := 4) (Nat.le_of_ble_eq_true rfl)
  rw [lg_entry_eq]
  generalize (lg_sl ([.ref h0, .int y, .int q]) ++ List.replicate (4 - (lg_sl ([.ref h0, .int y, .int q])).length) Slot.unset).toArray = ls at hl ⊢
  have hl : lv_has ls 4 [(0, .ref h0), (1, .int y), (2, .int q)] := hl
  refine lv_aload_n hx hb dL_filter_0 rfl (lv_at hl 0 rfl) ?_
  refine lv_iload_n hx hb dL_filter_1 rfl (lv_at hl 1 rfl) ?_
  refine lv_iload_n hx hb dL_filter_2 rfl (lv_at hl 2 rfl) ?_
  refine vx_callv (vx_runV (C := RX0) (As := [.int y, .int q]) (rest := []) ⟨hx, hb, hml, hown, hts⟩ (c_X0_filter_x l hl9 s.heap.size sa dC dI cI h0 ab rc rl ps f y q hb0) (cwV 2 hts gL_filter_X0_filter rfl rfl rfl (by decide +kernel) ⟨Nat.le_of_ble_eq_true rfl, Nat.le_of_ble_eq_true rfl⟩) ⟨fun a U g mk q => by obtain ⟨q0, q1, qX, qP, qK⟩ := q; exact ⟨q0, q1, rw_XA.call qX, qP, va_K.moved (u := U) (U := U.calling g mk a) (Vm.Alike.refl U.vm) qK⟩, va_recv hK hP (ci := 0) (q0 := 0) rfl rfl, fun U hU hW => ⟨rfl, by rw [hU], rw_XA.go hX hU hW, by rw [hU]; exact hP, va_K.moved hW.alike hK⟩⟩ rfl rfl hl.1 rfl (lv_room (Nat.le_of_ble_eq_true rfl)) dL_filter_3 ⟨Nat.le_refl _, Nat.le_refl _⟩) hS (fun q _ h => hA q h) (fun q h => hA q h) (fun q _ h => hA q h) (fun E ce q9 u t9 H1 locs ht hvm hpx hE hz1 hk1 hS hc1 hc2 hc3 => ?_) (fun u t9 H1 locs ht hvm hw hB hz1 hk1 hS => hw.elim)
  have hE : E = "java/lang/IllegalArgumentException" := hE
  subst hE
  have hP := hP.kept (H1 := H1) (fun k q hk => hk1 q.1 (vx_lt hP hk) (Nat.not_le.mpr (vx_lt hP hk)))
  generalize H1 = H at hP hS hc1 ⊢
  have hP : va_P (dC, dI) rw_cl [(h0, .inr (0, [.ref ab, .int (nI rc), .int (nI rl), .int (nI ps)])), (ab, .inl (cI, 4096, .inl f))] H := hP
  have hD : va_D A [(h0, .inr (0, [.ref ab, .int (nI rc), .int (nI rl), .int (nI ps)])), (ab, .inl (cI, 4096, .inl f))] := hD
  refine vx_catch hown [] _ [] (vx_table (x := yL_filter) B (hts (.codeWith yL_filter cL_filter 4 (some .int) [(0, 6, 9, 13)]) List.mem_cons_self)) (fun z h => by cases h) (by decide) (by decide) (hts (.classLink RL 13 "java/lang/IllegalArgumentException") (by decide +kernel)) (va_Nw.use rfl hX.2.2.2.1) hc1 hc2 hc3 ?_
  refine W.eq (g2 := F0 m 9 ls [.ref q9]) rfl ?_
  refine lv_astore_n hx hb dL_filter_9 rfl hl (by decide) rfl (fun ls hl => ?_)
  have hl : lv_has ls 4 [(3, .ref q9), (0, .ref h0), (1, .int y), (2, .int q)] := hl
  refine lv_iconst (v := 1) hx hb dL_filter_10 (by decide) ?_
  exact W.iret (v := 1) hx hb hr (fun t ht hW => ⟨⟨1, (), rfl, rfl, by rw [ht]; exact hP, va_K.moved hW.alike hK, hD⟩, hS.F ht⟩) hS.2.2 dL_filter_11
set_option maxHeartbeats 4000000 in
set_option maxRecDepth 100000 in
theorem c_L_plain_bad (l : Launch) (hl9 : l.stackTraces = false) (sa : Nat) (dC : Nat → ClassId) (dI : Nat → Nat → Nat) (cI : ClassId) (h0 ab rc rl ps : Nat) (f : Nat → Int32) (sz : Nat) (y q : Int32) (hb0 : (y < 0 ∨ nI rc - 1 < y) ∨ (q < 0 ∨ 4 < q)) : Met l yL_plain wsL_plain ({ frames := 9, cells := 1, slots := 6, locals := 147 }) (va_Pc [.ref h0, .int y, .int q] (fun U => rw_XA (fun q => sz ≤ q) sa U U.heap ∧ rw_preD dC dI cI h0 ab rc rl ps f sz U)) (va_Qi (fun (r : Int32) (_ : Unit) => r = 1) (fun _ t9 => rw_B dC dI cI h0 ab rc rl ps (f) (va_A (rw_W h0 ab cI rc rl ps f) sz) t9) (va_A (rw_W h0 ab cI rc rl ps f) sz)) 1 6 (va_A (rw_W h0 ab cI rc rl ps f) sz) := by
  refine va_MetW (cc := cL_plain) (maxL := 4) (ret := some .int) (by decide) rfl ?_
  intro p e s m args below meth c s₁ B hml hv
  obtain ⟨rfl, hX, hsz, hP, hK, hD0⟩ := hv
  have hx := B.exec
  have hb := B.bytes
  have hr := B.returns
  have hts := atoms_spec (ws := wsL_plain) B.pre
  have hown : s.vm.findClass RL = some m.cls := findClass_of_methodNamed B.named
  have hlocks := B.notSynchronized
  subst hsz
  have hD := hD0.self (sz := s.heap.size)
  generalize hAe : va_A (rw_W h0 ab cI rc rl ps f) s.heap.size = A at hD ⊢
  have hA : ∀ q : Nat, s.heap.size ≤ q → A q := fun q h => by rw [← hAe]; exact Or.inr h
  have hS : va_S A s.heap s.heap [] := va_S.rf
  have hP : va_P (dC, dI) rw_cl (rw_W h0 ab cI rc rl ps f) s.heap := hP
  have hl := lv_entry ([.ref h0, .int y, .int q]) (n := 4) (Nat.le_of_ble_eq_true rfl)
  rw [lg_entry_eq]
  generalize (lg_sl ([.ref h0, .int y, .int q]) ++ List.replicate (4 - (lg_sl ([.ref h0, .int y, .int q])).length) Slot.unset).toArray = ls at hl ⊢
  have hl : lv_has ls 4 [(0, .ref h0), (1, .int y), (2, .int q)] := hl
  refine lv_aload_n hx hb dL_plain_0 rfl (lv_at hl 0 rfl) ?_
  refine lv_iload_n hx hb dL_plain_1 rfl (lv_at hl 1 rfl) ?_
  refine lv_iload_n hx hb dL_plain_2 rfl (lv_at hl 2 rfl) ?_
  refine vx_callv (vx_runV (C := RX0) (As := [.int y, .int q]) (rest := []) ⟨hx, hb, hml, hown, hts⟩ (c_X0_plain_x l hl9 s.heap.size sa dC dI cI h0 ab rc rl ps f y q hb0) (cwV 2 hts gL_plain_X0_plain rfl rfl rfl (by decide +kernel) ⟨Nat.le_of_ble_eq_true rfl, Nat.le_of_ble_eq_true rfl⟩) ⟨fun a U g mk q => by obtain ⟨q0, q1, qX, qP, qK⟩ := q; exact ⟨q0, q1, rw_XA.call qX, qP, va_K.moved (u := U) (U := U.calling g mk a) (Vm.Alike.refl U.vm) qK⟩, va_recv hK hP (ci := 0) (q0 := 0) rfl rfl, fun U hU hW => ⟨rfl, by rw [hU], rw_XA.go hX hU hW, by rw [hU]; exact hP, va_K.moved hW.alike hK⟩⟩ rfl rfl hl.1 rfl (lv_room (Nat.le_of_ble_eq_true rfl)) dL_plain_3 ⟨Nat.le_refl _, Nat.le_refl _⟩) hS (fun q _ h => hA q h) (fun q h => hA q h) (fun q _ h => hA q h) (fun E ce q9 u t9 H1 locs ht hvm hpx hE hz1 hk1 hS hc1 hc2 hc3 => ?_) (fun u t9 H1 locs ht hvm hw hB hz1 hk1 hS => hw.elim)
  have hE : E = "java/lang/IllegalArgumentException" := hE
  subst hE
  have hP := hP.kept (H1 := H1) (fun k q hk => hk1 q.1 (vx_lt hP hk) (Nat.not_le.mpr (vx_lt hP hk)))
  generalize H1 = H at hP hS hc1 ⊢
  have hP : va_P (dC, dI) rw_cl [(h0, .inr (0, [.ref ab, .int (nI rc), .int (nI rl), .int (nI ps)])), (ab, .inl (cI, 4096, .inl f))] H := hP
  have hD : va_D A [(h0, .inr (0, [.ref ab, .int (nI rc), .int (nI rl), .int (nI ps)])), (ab, .inl (cI, 4096, .inl f))] := hD
  refine vx_catch hown [] _ [] (vx_table (x := yL_plain) B (hts (.codeWith yL_plain cL_plain 4 (some .int) [(0, 6, 9, 13)]) List.mem_cons_self)) (fun z h => by cases h) (by decide) (by decide) (hts (.classLink RL 13 "java/lang/IllegalArgumentException") (by decide +kernel)) (va_Nw.use rfl hX.2.2.2.1) hc1 hc2 hc3 ?_
  refine W.eq (g2 := F0 m 9 ls [.ref q9]) rfl ?_
  refine lv_astore_n hx hb dL_plain_9 rfl hl (by decide) rfl (fun ls hl => ?_)
  have hl : lv_has ls 4 [(3, .ref q9), (0, .ref h0), (1, .int y), (2, .int q)] := hl
  refine lv_iconst (v := 1) hx hb dL_plain_10 (by decide) ?_
  exact W.iret (v := 1) hx hb hr (fun t ht hW => ⟨⟨1, (), rfl, rfl, by rw [ht]; exact hP, va_K.moved hW.alike hK, hD⟩, hS.F ht⟩) hS.2.2 dL_plain_11
set_option maxHeartbeats 4000000 in
set_option maxRecDepth 100000 in
theorem c_L_undo_bad (l : Launch) (hl9 : l.stackTraces = false) (sa : Nat) (dC : Nat → ClassId) (dI : Nat → Nat → Nat) (cI : ClassId) (h0 ab rc rl ps : Nat) (f : Nat → Int32) (sz : Nat) (n : Int32) (hb0 : n < 0 ∨ 390624 < n) : Met l yL_undo wsL_undo ({ frames := 8, cells := 1, slots := 6, locals := 128 }) (va_Pc [.ref h0, .int n] (fun U => rw_XA (fun q => sz ≤ q) sa U U.heap ∧ rw_preD dC dI cI h0 ab rc rl ps f sz U)) (va_Qi (fun (r : Int32) (_ : Unit) => r = 1) (fun _ t9 => rw_B dC dI cI h0 ab rc rl ps (f) (va_A (rw_W h0 ab cI rc rl ps f) sz) t9) (va_A (rw_W h0 ab cI rc rl ps f) sz)) 1 6 (va_A (rw_W h0 ab cI rc rl ps f) sz) := by
  refine va_MetW (cc := cL_undo) (maxL := 3) (ret := some .int) (by decide) rfl ?_
  intro p e s m args below meth c s₁ B hml hv
  obtain ⟨rfl, hX, hsz, hP, hK, hD0⟩ := hv
  have hx := B.exec
  have hb := B.bytes
  have hr := B.returns
  have hts := atoms_spec (ws := wsL_undo) B.pre
  have hown : s.vm.findClass RL = some m.cls := findClass_of_methodNamed B.named
  have hlocks := B.notSynchronized
  subst hsz
  have hD := hD0.self (sz := s.heap.size)
  generalize hAe : va_A (rw_W h0 ab cI rc rl ps f) s.heap.size = A at hD ⊢
  have hA : ∀ q : Nat, s.heap.size ≤ q → A q := fun q h => by rw [← hAe]; exact Or.inr h
  have hS : va_S A s.heap s.heap [] := va_S.rf
  have hP : va_P (dC, dI) rw_cl (rw_W h0 ab cI rc rl ps f) s.heap := hP
  have hl := lv_entry ([.ref h0, .int n]) (n := 3) (Nat.le_of_ble_eq_true rfl)
  rw [lg_entry_eq]
  generalize (lg_sl ([.ref h0, .int n]) ++ List.replicate (3 - (lg_sl ([.ref h0, .int n])).length) Slot.unset).toArray = ls at hl ⊢
  have hl : lv_has ls 3 [(0, .ref h0), (1, .int n)] := hl
  refine lv_aload_n hx hb dL_undo_0 rfl (lv_at hl 0 rfl) ?_
  refine lv_iload_n hx hb dL_undo_1 rfl (lv_at hl 1 rfl) ?_
  refine vx_callv (vx_runV (C := RX0) (As := [.int n]) (rest := []) ⟨hx, hb, hml, hown, hts⟩ (c_X0_undo_x l hl9 s.heap.size sa dC dI cI h0 ab rc rl ps f n hb0) (cwV 1 hts gL_undo_X0_undo rfl rfl rfl (by decide +kernel) ⟨Nat.le_of_ble_eq_true rfl, Nat.le_of_ble_eq_true rfl⟩) ⟨fun a U g mk q => by obtain ⟨q0, q1, qX, qP, qK⟩ := q; exact ⟨q0, q1, rw_XA.call qX, qP, va_K.moved (u := U) (U := U.calling g mk a) (Vm.Alike.refl U.vm) qK⟩, va_recv hK hP (ci := 0) (q0 := 0) rfl rfl, fun U hU hW => ⟨rfl, by rw [hU], rw_XA.go hX hU hW, by rw [hU]; exact hP, va_K.moved hW.alike hK⟩⟩ rfl rfl hl.1 rfl (lv_room (Nat.le_of_ble_eq_true rfl)) dL_undo_2 ⟨Nat.le_refl _, Nat.le_refl _⟩) hS (fun q _ h => hA q h) (fun q h => hA q h) (fun q _ h => hA q h) (fun E ce q9 u t9 H1 locs ht hvm hpx hE hz1 hk1 hS hc1 hc2 hc3 => ?_) (fun u t9 H1 locs ht hvm hw hB hz1 hk1 hS => hw.elim)
  have hE : E = "java/lang/IllegalArgumentException" := hE
  subst hE
  have hP := hP.kept (H1 := H1) (fun k q hk => hk1 q.1 (vx_lt hP hk) (Nat.not_le.mpr (vx_lt hP hk)))
  generalize H1 = H at hP hS hc1 ⊢
  have hP : va_P (dC, dI) rw_cl [(h0, .inr (0, [.ref ab, .int (nI rc), .int (nI rl), .int (nI ps)])), (ab, .inl (cI, 4096, .inl f))] H := hP
  have hD : va_D A [(h0, .inr (0, [.ref ab, .int (nI rc), .int (nI rl), .int (nI ps)])), (ab, .inl (cI, 4096, .inl f))] := hD
  refine vx_catch hown [] _ [] (vx_table (x := yL_undo) B (hts (.codeWith yL_undo cL_undo 3 (some .int) [(0, 5, 8, 13)]) List.mem_cons_self)) (fun z h => by cases h) (by decide) (by decide) (hts (.classLink RL 13 "java/lang/IllegalArgumentException") (by decide +kernel)) (va_Nw.use rfl hX.2.2.2.1) hc1 hc2 hc3 ?_
  refine W.eq (g2 := F0 m 8 ls [.ref q9]) rfl ?_
  refine lv_astore_n hx hb dL_undo_8 rfl hl (by decide) rfl (fun ls hl => ?_)
  have hl : lv_has ls 3 [(2, .ref q9), (0, .ref h0), (1, .int n)] := hl
  refine lv_iconst (v := 1) hx hb dL_undo_9 (by decide) ?_
  exact W.iret (v := 1) hx hb hr (fun t ht hW => ⟨⟨1, (), rfl, rfl, by rw [ht]; exact hP, va_K.moved hW.alike hK, hD⟩, hS.F ht⟩) hS.2.2 dL_undo_10
set_option maxHeartbeats 4000000 in
set_option maxRecDepth 100000 in
theorem c_L_pass_bad (l : Launch) (hl9 : l.stackTraces = false) (sa : Nat) (dC : Nat → ClassId) (dI : Nat → Nat → Nat) (cI : ClassId) (h0 ab rc rl ps : Nat) (f : Nat → Int32) (cL : ClassId) (oa : Nat) (o : Nat → Int64) (sz : Nat) (k w h b : Int32) (hb0 : rf_pw k w h) : Met l yL_pass wsL_pass ({ frames := 8, cells := 1, slots := 6, locals := 130 }) (va_Pc [.ref h0, .int k, .int w, .int h, .int b, .ref oa] (fun U => rw_XA (fun q => sz ≤ q) sa U U.heap ∧ rl_preD dC dI cI h0 ab rc rl ps f cL oa o sz U)) (va_Qi (fun (r : Int32) (_ : Unit) => r = 1) (fun _ t9 => rl_B dC dI cI h0 ab rc rl ps f cL oa o (va_A (rl_W h0 ab cI rc rl ps f cL oa o) sz) t9) (va_A (rl_W h0 ab cI rc rl ps f cL oa o) sz)) 1 6 (va_A (rl_W h0 ab cI rc rl ps f cL oa o) sz) := by
  refine va_MetW (cc := cL_pass) (maxL := 7) (ret := some .int) (by decide) rfl ?_
  intro p e s m args below meth c s₁ B hml hv
  obtain ⟨rfl, hX, hsz, hP, hK, hD0⟩ := hv
  have hx := B.exec
  have hb := B.bytes
  have hr := B.returns
  have hts := atoms_spec (ws := wsL_pass) B.pre
  have hown : s.vm.findClass RL = some m.cls := findClass_of_methodNamed B.named
  have hlocks := B.notSynchronized
  subst hsz
  have hD := hD0.self (sz := s.heap.size)
  generalize hAe : va_A (rl_W h0 ab cI rc rl ps f cL oa o) s.heap.size = A at hD ⊢
  have hA : ∀ q : Nat, s.heap.size ≤ q → A q := fun q h => by rw [← hAe]; exact Or.inr h
  have hS : va_S A s.heap s.heap [] := va_S.rf
  have hP : va_P (dC, dI) rw_cl (rl_W h0 ab cI rc rl ps f cL oa o) s.heap := hP
  have hl := lv_entry ([.ref h0, .int k, .int w, .int h, .int b, .ref oa]) (n := 7) (Nat.le_of_ble_eq_true rfl)
  rw [lg_entry_eq]
  generalize (lg_sl ([.ref h0, .int k, .int w, .int h, .int b, .ref oa]) ++ List.replicate (7 - (lg_sl ([.ref h0, .int k, .int w, .int h, .int b, .ref oa])).length) Slot.unset).toArray = ls at hl ⊢
  have hl : lv_has ls 7 [(0, .ref h0), (1, .int k), (2, .int w), (3, .int h), (4, .int b), (5, .ref oa)] := hl
  refine lv_aload hx hb dL_pass_0 (lv_at hl 5 rfl) ?_
  refine lv_iconst (v := 0) hx hb dL_pass_2 (by decide) ?_
  refine lv_aload_n hx hb dL_pass_3 rfl (lv_at hl 0 rfl) ?_
  refine lv_iload_n hx hb dL_pass_4 rfl (lv_at hl 1 rfl) ?_
  refine lv_iload_n hx hb dL_pass_5 rfl (lv_at hl 2 rfl) ?_
  refine lv_iload_n hx hb dL_pass_6 rfl (lv_at hl 3 rfl) ?_
  refine lv_iload hx hb dL_pass_7 (lv_at hl 4 rfl) ?_
  have hPc := hP.sub (ws' := [(h0, .inr (0, [.ref ab, .int (nI rc), .int (nI rl), .int (nI ps)])), (ab, .inl (cI, 4096, .inl f))]) [0, 1] rfl
  have hKc := hK.sub (tys' := [(cI, .int)]) [0] rfl
  refine vx_calli (vx_runV (C := RX0) (As := [.int k, .int w, .int h, .int b]) (rest := [.int 0, .ref oa]) ⟨hx, hb, hml, hown, hts⟩ (c_X0_pass_x l hl9 s.heap.size sa dC dI cI h0 ab rc rl ps f k w h b hb0) (cwV 4 hts gL_pass_X0_pass rfl rfl rfl (by decide +kernel) ⟨Nat.le_of_ble_eq_true rfl, Nat.le_of_ble_eq_true rfl⟩) ⟨fun a U g mk q => by obtain ⟨q0, q1, qX, qP, qK⟩ := q; exact ⟨q0, q1, rw_XA.call qX, qP, va_K.moved (u := U) (U := U.calling g mk a) (Vm.Alike.refl U.vm) qK⟩, va_recv hK hP (ci := 0) (q0 := 0) rfl rfl, fun U hU hW => ⟨rfl, by rw [hU], rw_XA.go hX hU hW, by rw [hU]; exact hPc, va_K.moved hW.alike hKc⟩⟩ rfl rfl hl.1 rfl (lv_room (Nat.le_of_ble_eq_true rfl)) dL_pass_9 ⟨Nat.le_refl _, Nat.le_refl _⟩) hS (fun q _ h => hA q h) (fun q h => hA q h) (fun q _ h => hA q h) (fun E ce q9 u t9 H1 locs ht hvm hpx hE hz1 hk1 hS hc1 hc2 hc3 => ?_) (fun r9 u t9 H1 locs ht hvm hw hB hz1 hk1 hS => hw.elim)
  have hE : E = "java/lang/IllegalArgumentException" := hE
  subst hE
  have hP := hP.kept (H1 := H1) (fun k q hk => hk1 q.1 (vx_lt hP hk) (Nat.not_le.mpr (vx_lt hP hk)))
  generalize H1 = H at hP hS hc1 ⊢
  have hP : va_P (dC, dI) rw_cl [(h0, .inr (0, [.ref ab, .int (nI rc), .int (nI rl), .int (nI ps)])), (ab, .inl (cI, 4096, .inl f)), (oa, .inl (cL, 1, .inr (.inl o)))] H := hP
  have hD : va_D A [(h0, .inr (0, [.ref ab, .int (nI rc), .int (nI rl), .int (nI ps)])), (ab, .inl (cI, 4096, .inl f)), (oa, .inl (cL, 1, .inr (.inl o)))] := hD
  refine vx_catch hown [] _ [] (vx_table (x := yL_pass) B (hts (.codeWith yL_pass cL_pass 7 (some .int) [(0, 14, 17, 13)]) List.mem_cons_self)) (fun z h => by cases h) (by decide) (by decide) (hts (.classLink RL 13 "java/lang/IllegalArgumentException") (by decide +kernel)) (va_Nw.use rfl hX.2.2.2.1) hc1 hc2 hc3 ?_
  refine W.eq (g2 := F0 m 17 ls [.ref q9]) rfl ?_
  refine lv_astore hx hb dL_pass_17 hl (by decide) rfl (fun ls hl => ?_)
  have hl : lv_has ls 7 [(6, .ref q9), (0, .ref h0), (1, .int k), (2, .int w), (3, .int h), (4, .int b), (5, .ref oa)] := hl
  refine lv_iconst (v := 1) hx hb dL_pass_19 (by decide) ?_
  exact W.iret (v := 1) hx hb hr (fun t ht hW => ⟨⟨1, (), rfl, rfl, by rw [ht]; exact hP, va_K.moved hW.alike hK, hD⟩, hS.F ht⟩) hS.2.2 dL_pass_20
set_option maxHeartbeats 4000000 in
set_option maxRecDepth 100000 in
theorem c_L_passOf_bad (l : Launch) (hl9 : l.stackTraces = false) (sa : Nat) (dC : Nat → ClassId) (dI : Nat → Nat → Nat) (cI : ClassId) (h0 ab rc rl ps : Nat) (f : Nat → Int32) (cL : ClassId) (oa : Nat) (o : Nat → Int64) (sz : Nat) (x y : Int32) (hb0 : rf_xy x y) : Met l yL_passOf wsL_passOf ({ frames := 8, cells := 1, slots := 6, locals := 127 }) (va_Pc [.ref h0, .int x, .int y, .ref oa] (fun U => rw_XA (fun q => sz ≤ q) sa U U.heap ∧ rl_preD dC dI cI h0 ab rc rl ps f cL oa o sz U)) (va_Qi (fun (r : Int32) (_ : Unit) => r = 1) (fun _ t9 => rl_B dC dI cI h0 ab rc rl ps f cL oa o (va_A (rl_W h0 ab cI rc rl ps f cL oa o) sz) t9) (va_A (rl_W h0 ab cI rc rl ps f cL oa o) sz)) 1 6 (va_A (rl_W h0 ab cI rc rl ps f cL oa o) sz) := by
  refine va_MetW (cc := cL_passOf) (maxL := 5) (ret := some .int) (by decide) rfl ?_
  intro p e s m args below meth c s₁ B hml hv
  obtain ⟨rfl, hX, hsz, hP, hK, hD0⟩ := hv
  have hx := B.exec
  have hb := B.bytes
  have hr := B.returns
  have hts := atoms_spec (ws := wsL_passOf) B.pre
  have hown : s.vm.findClass RL = some m.cls := findClass_of_methodNamed B.named
  have hlocks := B.notSynchronized
  subst hsz
  have hD := hD0.self (sz := s.heap.size)
  generalize hAe : va_A (rl_W h0 ab cI rc rl ps f cL oa o) s.heap.size = A at hD ⊢
  have hA : ∀ q : Nat, s.heap.size ≤ q → A q := fun q h => by rw [← hAe]; exact Or.inr h
  have hS : va_S A s.heap s.heap [] := va_S.rf
  have hP : va_P (dC, dI) rw_cl (rl_W h0 ab cI rc rl ps f cL oa o) s.heap := hP
  have hl := lv_entry ([.ref h0, .int x, .int y, .ref oa]) (n := 5) (Nat.le_of_ble_eq_true rfl)
  rw [lg_entry_eq]
  generalize (lg_sl ([.ref h0, .int x, .int y, .ref oa]) ++ List.replicate (5 - (lg_sl ([.ref h0, .int x, .int y, .ref oa])).length) Slot.unset).toArray = ls at hl ⊢
  have hl : lv_has ls 5 [(0, .ref h0), (1, .int x), (2, .int y), (3, .ref oa)] := hl
  refine lv_aload_n hx hb dL_passOf_0 rfl (lv_at hl 3 rfl) ?_
  refine lv_iconst (v := 0) hx hb dL_passOf_1 (by decide) ?_
  refine lv_aload_n hx hb dL_passOf_2 rfl (lv_at hl 0 rfl) ?_
  refine lv_iload_n hx hb dL_passOf_3 rfl (lv_at hl 1 rfl) ?_
  refine lv_iload_n hx hb dL_passOf_4 rfl (lv_at hl 2 rfl) ?_
  have hPc := hP.sub (ws' := [(h0, .inr (0, [.ref ab, .int (nI rc), .int (nI rl), .int (nI ps)])), (ab, .inl (cI, 4096, .inl f))]) [0, 1] rfl
  have hKc := hK.sub (tys' := [(cI, .int)]) [0] rfl
  refine vx_calli (vx_runV (C := RX0) (As := [.int x, .int y]) (rest := [.int 0, .ref oa]) ⟨hx, hb, hml, hown, hts⟩ (c_X0_passOf_x l hl9 s.heap.size sa dC dI cI h0 ab rc rl ps f x y hb0) (cwV 2 hts gL_passOf_X0_passOf rfl rfl rfl (by decide +kernel) ⟨Nat.le_of_ble_eq_true rfl, Nat.le_of_ble_eq_true rfl⟩) ⟨fun a U g mk q => by obtain ⟨q0, q1, qX, qP, qK⟩ := q; exact ⟨q0, q1, rw_XA.call qX, qP, va_K.moved (u := U) (U := U.calling g mk a) (Vm.Alike.refl U.vm) qK⟩, va_recv hK hP (ci := 0) (q0 := 0) rfl rfl, fun U hU hW => ⟨rfl, by rw [hU], rw_XA.go hX hU hW, by rw [hU]; exact hPc, va_K.moved hW.alike hKc⟩⟩ rfl rfl hl.1 rfl (lv_room (Nat.le_of_ble_eq_true rfl)) dL_passOf_5 ⟨Nat.le_refl _, Nat.le_refl _⟩) hS (fun q _ h => hA q h) (fun q h => hA q h) (fun q _ h => hA q h) (fun E ce q9 u t9 H1 locs ht hvm hpx hE hz1 hk1 hS hc1 hc2 hc3 => ?_) (fun r9 u t9 H1 locs ht hvm hw hB hz1 hk1 hS => hw.elim)
  have hE : E = "java/lang/IllegalArgumentException" := hE
  subst hE
  have hP := hP.kept (H1 := H1) (fun k q hk => hk1 q.1 (vx_lt hP hk) (Nat.not_le.mpr (vx_lt hP hk)))
  generalize H1 = H at hP hS hc1 ⊢
  have hP : va_P (dC, dI) rw_cl [(h0, .inr (0, [.ref ab, .int (nI rc), .int (nI rl), .int (nI ps)])), (ab, .inl (cI, 4096, .inl f)), (oa, .inl (cL, 1, .inr (.inl o)))] H := hP
  have hD : va_D A [(h0, .inr (0, [.ref ab, .int (nI rc), .int (nI rl), .int (nI ps)])), (ab, .inl (cI, 4096, .inl f)), (oa, .inl (cL, 1, .inr (.inl o)))] := hD
  refine vx_catch hown [] _ [] (vx_table (x := yL_passOf) B (hts (.codeWith yL_passOf cL_passOf 5 (some .int) [(0, 10, 13, 13)]) List.mem_cons_self)) (fun z h => by cases h) (by decide) (by decide) (hts (.classLink RL 13 "java/lang/IllegalArgumentException") (by decide +kernel)) (va_Nw.use rfl hX.2.2.2.1) hc1 hc2 hc3 ?_
  refine W.eq (g2 := F0 m 13 ls [.ref q9]) rfl ?_
  refine lv_astore hx hb dL_passOf_13 hl (by decide) rfl (fun ls hl => ?_)
  have hl : lv_has ls 5 [(4, .ref q9), (0, .ref h0), (1, .int x), (2, .int y), (3, .ref oa)] := hl
  refine lv_iconst (v := 1) hx hb dL_passOf_15 (by decide) ?_
  exact W.iret (v := 1) hx hb hr (fun t ht hW => ⟨⟨1, (), rfl, rfl, by rw [ht]; exact hP, va_K.moved hW.alike hK, hD⟩, hS.F ht⟩) hS.2.2 dL_passOf_16
end
section
def TX1 : u_T := fun k => match k with
  | _ => ("", "", "", false)
def tyX1 : Nat → FieldType := fun k => match k with
  | _ => .int
abbrev wsX10 : List Cond := u_ws RX1 TX1 0
theorem nmX1 : ∀ a, a < 0 → ∀ b, b < 0 → a ≠ b → (TX1 a).2.1 ≠ (TX1 b).2.1 := by decide +kernel
theorem tyX1_ok : ∀ k, k < 0 → parseFieldDescriptor (TX1 k).2.2.1 = some (tyX1 k) := by decide +kernel
abbrev cX1_init : ByteArray := prog_3_method_1_code
def yX1_init : MethodName := ⟨RX1, "<init>", "()V"⟩
def wsX1_init : List Cond := .code yX1_init cX1_init 1 none :: ([.methodLink RX1 1 objectInit, .instanceMethod objectInit, .code objectInit ⟨#[0xb1]⟩ 1 none, .fieldLink RX1 7 "RowFiltersModel" "height" "I", .fieldLink RX1 13 "RowFiltersModel" "width" "I", .fieldLink RX1 16 "RowFiltersModel" "step" "I", .arrayClass .int])
abbrev cL_law : ByteArray := code
def yL_law : MethodName := ⟨RL, "law", "([I)Z"⟩
def wsL_law0_r1 : List Cond := [Cond.classLink RL 8 RX0, Cond.instantiable RX0 4, Cond.initialized RX0, Cond.classLink RL 42 RX1, Cond.instantiable RX1 6, Cond.initialized RX1, Cond.methodLink RL 41 yX0_init, Cond.instanceMethod yX0_init, Cond.code yX0_init cX0_init 1 none, Cond.methodLink RX0 1 objectInit, Cond.instanceMethod objectInit, Cond.code objectInit ⟨#[0xb1]⟩ 1 none, Cond.arrayClass .int, Cond.fieldLink RX0 9 "RowFilters" "bytes" "[I", Cond.fieldLink RX0 13 "RowFilters" "rowCount" "I", Cond.fieldLink RX0 17 "RowFilters" "rowLength" "I", Cond.fieldLink RX0 20 "RowFilters" "pointSize" "I", Cond.methodLink RL 44 yX1_init, Cond.instanceMethod yX1_init, Cond.code yX1_init cX1_init 1 none, Cond.methodLink RX1 1 objectInit, Cond.fieldLink RX1 7 "RowFiltersModel" "height" "I", Cond.fieldLink RX1 13 "RowFiltersModel" "width" "I", Cond.fieldLink RX1 16 "RowFiltersModel" "step" "I"]
def wsL_law0_r2 : List Cond := [Cond.methodLink RL 45 yL_open, Cond.static yL_open, Cond.initialized RL, Cond.codeWith yL_open cL_open 5 (some .int) [(0, 7, 10, 13)], Cond.classLink RL 13 "java/lang/IllegalArgumentException", Cond.methodLink RL 7 yX0_open, Cond.instanceMethod yX0_open, Cond.selects RX0 yX0_open yX0_open, Cond.code yX0_open cX0_open 4 none, Cond.methodLink RX0 23 yX0_requireWithin, Cond.static yX0_requireWithin, Cond.code yX0_requireWithin cX0_requireWithin 3 none, Cond.classLink RX0 94 "java/lang/IllegalArgumentException", Cond.initialized "java/lang/IllegalArgumentException", Cond.methodLink RX0 27 yJ7_fill_53178, Cond.static yJ7_fill_53178, Cond.initialized RJ7, Cond.code yJ7_fill_53178 cJ7_fill_53178 4 none, Cond.methodLink RL 55 yL_set, Cond.static yL_set, Cond.codeWith yL_set cL_set 6 (some .int) [(0, 12, 15, 13)], Cond.methodLink RL 15 yX0_set, Cond.instanceMethod yX0_set, Cond.selects RX0 yX0_set yX0_set]
def wsL_law0_r3 : List Cond := [Cond.code yX0_set cX0_set 6 (some .int), Cond.methodLink RX0 33 yX0_requireByte, Cond.instanceMethod yX0_requireByte, Cond.selects RX0 yX0_requireByte yX0_requireByte, Cond.code yX0_requireByte cX0_requireByte 3 none, Cond.methodLink RX0 37 yX0_requireRow, Cond.instanceMethod yX0_requireRow, Cond.selects RX0 yX0_requireRow yX0_requireRow, Cond.code yX0_requireRow cX0_requireRow 2 none, Cond.methodLink RL 59 yL_get, Cond.static yL_get, Cond.codeWith yL_get cL_get 5 (some .int) [(0, 10, 13, 13)], Cond.methodLink RL 19 yX0_get, Cond.instanceMethod yX0_get, Cond.selects RX0 yX0_get yX0_get, Cond.code yX0_get cX0_get 3 (some .int), Cond.methodLink RL 63 yX0_fill, Cond.instanceMethod yX0_fill, Cond.selects RX0 yX0_fill yX0_fill, Cond.code yX0_fill cX0_fill 6 none, Cond.methodLink RL 67 yL_filter, Cond.static yL_filter, Cond.codeWith yL_filter cL_filter 4 (some .int) [(0, 6, 9, 13)], Cond.methodLink RL 23 yX0_filter]
def wsL_law0_r4 : List Cond := [Cond.instanceMethod yX0_filter, Cond.selects RX0 yX0_filter yX0_filter, Cond.code yX0_filter cX0_filter 3 none, Cond.methodLink RX0 41 yX0_requireFilter, Cond.static yX0_requireFilter, Cond.code yX0_requireFilter cX0_requireFilter 1 none, Cond.methodLink RX0 44 yX0_tellRow, Cond.instanceMethod yX0_tellRow, Cond.selects RX0 yX0_tellRow yX0_tellRow, Cond.code yX0_tellRow cX0_tellRow 5 none, Cond.methodLink RX0 79 yX0_foretold, Cond.instanceMethod yX0_foretold, Cond.selects RX0 yX0_foretold yX0_foretold, Cond.code yX0_foretold cX0_foretold 6 (some .int), Cond.methodLink RX0 85 yX0_byteOrZero, Cond.instanceMethod yX0_byteOrZero, Cond.selects RX0 yX0_byteOrZero yX0_byteOrZero, Cond.code yX0_byteOrZero cX0_byteOrZero 3 (some .int), Cond.methodLink RX0 91 yX0_nearest, Cond.static yX0_nearest, Cond.code yX0_nearest cX0_nearest 7 (some .int), Cond.methodLink RX0 88 Lib.Math.abs.name, Cond.static Lib.Math.abs.name, Cond.initialized "java/lang/Math"]
def wsL_law0_r5 : List Cond := [Cond.code Lib.Math.abs.name Lib.Math.abs.code 1 (some .int), Cond.methodLink RL 71 yL_plain, Cond.static yL_plain, Cond.codeWith yL_plain cL_plain 4 (some .int) [(0, 6, 9, 13)], Cond.methodLink RL 27 yX0_plain, Cond.instanceMethod yX0_plain, Cond.selects RX0 yX0_plain yX0_plain, Cond.code yX0_plain cX0_plain 3 none, Cond.methodLink RX0 47 yX0_restoreRow, Cond.instanceMethod yX0_restoreRow, Cond.selects RX0 yX0_restoreRow yX0_restoreRow, Cond.code yX0_restoreRow cX0_restoreRow 5 none, Cond.methodLink RL 74 yX0_best, Cond.instanceMethod yX0_best, Cond.selects RX0 yX0_best yX0_best, Cond.code yX0_best cX0_best 5 (some .int), Cond.methodLink RX0 50 yX0_leastFilter, Cond.instanceMethod yX0_leastFilter, Cond.selects RX0 yX0_leastFilter yX0_leastFilter, Cond.code yX0_leastFilter cX0_leastFilter 6 (some .int), Cond.methodLink RX0 82 yX0_sumTold, Cond.instanceMethod yX0_sumTold, Cond.selects RX0 yX0_sumTold yX0_sumTold, Cond.code yX0_sumTold cX0_sumTold 6 (some .int)]
def wsL_law0_r6 : List Cond := [Cond.methodLink RL 78 yL_undo, Cond.static yL_undo, Cond.codeWith yL_undo cL_undo 3 (some .int) [(0, 5, 8, 13)], Cond.methodLink RL 30 yX0_undo, Cond.instanceMethod yX0_undo, Cond.selects RX0 yX0_undo yX0_undo, Cond.code yX0_undo cX0_undo 5 none, Cond.constant RX0 54 (390624), Cond.methodLink RX0 55 Lib.Math.min.name, Cond.static Lib.Math.min.name, Cond.code Lib.Math.min.name Lib.Math.min.code 2 (some .int), Cond.methodLink RL 82 yX0_hash, Cond.instanceMethod yX0_hash, Cond.selects RX0 yX0_hash yX0_hash, Cond.code yX0_hash cX0_hash 4 (some .int), Cond.methodLink RL 86 yL_pass, Cond.static yL_pass, Cond.codeWith yL_pass cL_pass 7 (some .int) [(0, 14, 17, 13)], Cond.methodLink RL 34 yX0_pass, Cond.instanceMethod yX0_pass, Cond.selects RX0 yX0_pass yX0_pass, Cond.code yX0_pass cX0_pass 7 (some .int), Cond.constant RX0 61 (100000), Cond.fieldLink RX0 62 "RowFilters" "PASS_FROM_X" "[I"]
def wsL_law0_r7 : List Cond := [Cond.fieldLink RX0 65 "RowFilters" "PASS_STEP_X" "[I", Cond.fieldLink RX0 72 "RowFilters" "PASS_FROM_Y" "[I", Cond.fieldLink RX0 75 "RowFilters" "PASS_STEP_Y" "[I", Cond.methodLink RX0 68 yX0_pointsAlong, Cond.static yX0_pointsAlong, Cond.code yX0_pointsAlong cX0_pointsAlong 3 (some .int), Cond.methodLink RL 90 yL_passOf, Cond.static yL_passOf, Cond.codeWith yL_passOf cL_passOf 5 (some .int) [(0, 10, 13, 13)], Cond.methodLink RL 38 yX0_passOf, Cond.instanceMethod yX0_passOf, Cond.selects RX0 yX0_passOf yX0_passOf, Cond.code yX0_passOf cX0_passOf 4 (some .int), Cond.constant RX0 78 (99999)]
def wsL_law0 : List Cond := (wsL_law0_r1 ++ (wsL_law0_r2 ++ (wsL_law0_r3 ++ (wsL_law0_r4 ++ (wsL_law0_r5 ++ (wsL_law0_r6 ++ wsL_law0_r7)))))) ++ wsX00 ++ wsX10 ++ ([] : List Cond)
def wsL_law : List Cond := wsL_law0 ++ (vx_atS RX0 98 "java/lang/IllegalArgumentException" ["java/lang/RuntimeException", "java/lang/Exception"]).filter goodWord
set_option maxRecDepth 20000 in
theorem wsL_law_in0 : ∀ w ∈ wsL_law0, w ∈ lw_tbl := fun w h => (goodIn_p wsL_law0 [31, 34, 252, 94, 97, 166, 173, 177, 181, 188, 52, 195, 198, 82, 72, 68, 75, 78, 205, 209, 56, 60, 64, 216, 220, 86, 227, 235, 246] (by decide +kernel) (by decide +kernel) w h).1
theorem wsL_law_x0 : ∀ w ∈ (vx_atS RX0 98 "java/lang/IllegalArgumentException" ["java/lang/RuntimeException", "java/lang/Exception"]).filter goodWord, w ∈ lw_tbl := by decide +kernel
theorem wsL_law_in : ∀ w ∈ wsL_law, w ∈ lw_tbl := fun w h => (List.mem_append.mp h).elim (fun h => wsL_law_in0 w h) (fun h => wsL_law_x0 w h)
set_option maxRecDepth 20000 in
theorem ggL_law_X0_init : GoodIn wsL_law wsX0_init := goodIn_r _ [8, 9, 10, 11, 12, 13, 14, 15, 16, 158, 159, 160, 161] (by decide +kernel) (by decide +kernel)
set_option maxRecDepth 20000 in
theorem gL_law_X0_init : GoodIn wsL_law (wsX0_init) := ggL_law_X0_init
set_option maxRecDepth 20000 in
theorem ggL_law_X1_init : GoodIn wsL_law wsX1_init := goodIn_r _ [19, 20, 10, 11, 21, 22, 23, 12] (by decide +kernel) (by decide +kernel)
set_option maxRecDepth 20000 in
theorem gL_law_X1_init : GoodIn wsL_law (wsX1_init) := ggL_law_X1_init
set_option maxRecDepth 20000 in
theorem ggL_law_L_open : GoodIn wsL_law wsL_open := goodIn_ca (goodIn_r _ [27, 28, 29, 30, 31, 2, 32, 14, 15, 16, 13, 33, 34, 35, 36, 37, 38, 39, 40, 41, 158, 159, 160, 161] (by decide +kernel) (by decide +kernel)) (goodIn_sub (fun _ h => List.mem_append_right _ h) (by decide +kernel))
set_option maxRecDepth 20000 in
theorem gL_law_L_open : GoodIn wsL_law (va_wsS RL 45 yL_open wsL_open) := goodIn_app (goodIn_of _ (by decide +kernel)) ggL_law_L_open
set_option maxRecDepth 20000 in
theorem ggL_law_L_set : GoodIn wsL_law wsL_set := goodIn_ca (goodIn_r _ [44, 28, 45, 46, 47, 2, 48, 15, 13, 49, 50, 51, 52, 53, 54, 55, 56, 14, 33, 34, 35, 36, 37, 158, 159, 160, 161] (by decide +kernel) (by decide +kernel)) (goodIn_sub (fun _ h => List.mem_append_right _ h) (by decide +kernel))
set_option maxRecDepth 20000 in
theorem gL_law_L_set : GoodIn wsL_law (va_wsS RL 55 yL_set wsL_set) := goodIn_app (goodIn_of _ (by decide +kernel)) ggL_law_L_set
set_option maxRecDepth 20000 in
theorem ggL_law_L_get : GoodIn wsL_law wsL_get := goodIn_ca (goodIn_r _ [59, 28, 60, 61, 62, 2, 63, 13, 15, 49, 50, 51, 52, 53, 54, 55, 56, 14, 33, 34, 35, 36, 37, 158, 159, 160, 161] (by decide +kernel) (by decide +kernel)) (goodIn_sub (fun _ h => List.mem_append_right _ h) (by decide +kernel))
set_option maxRecDepth 20000 in
theorem gL_law_L_get : GoodIn wsL_law (va_wsS RL 59 yL_get wsL_get) := goodIn_app (goodIn_of _ (by decide +kernel)) ggL_law_L_get
set_option maxRecDepth 20000 in
theorem ggL_law_X0_fill : GoodIn wsL_law wsX0_fill := goodIn_r _ [67, 14, 15, 13, 158, 159, 160, 161] (by decide +kernel) (by decide +kernel)
set_option maxRecDepth 20000 in
theorem gL_law_X0_fill : GoodIn wsL_law (wsV RL 63 RX0 yX0_fill wsX0_fill) := goodIn_app (goodIn_of _ (by decide +kernel)) ggL_law_X0_fill
set_option maxRecDepth 20000 in
theorem ggL_law_L_filter : GoodIn wsL_law wsL_filter := goodIn_ca (goodIn_r _ [70, 28, 71, 72, 73, 2, 74, 53, 54, 55, 56, 14, 33, 34, 35, 36, 37, 75, 76, 77, 78, 79, 80, 81, 15, 13, 82, 83, 84, 85, 16, 86, 87, 88, 89, 90, 91, 92, 93, 94, 95, 96, 158, 159, 160, 161] (by decide +kernel) (by decide +kernel)) (goodIn_sub (fun _ h => List.mem_append_right _ h) (by decide +kernel))
set_option maxRecDepth 20000 in
theorem gL_law_L_filter : GoodIn wsL_law (va_wsS RL 67 yL_filter wsL_filter) := goodIn_app (goodIn_of _ (by decide +kernel)) ggL_law_L_filter
set_option maxRecDepth 20000 in
theorem ggL_law_L_plain : GoodIn wsL_law wsL_plain := goodIn_ca (goodIn_r _ [99, 28, 100, 101, 102, 2, 103, 53, 54, 55, 56, 14, 33, 34, 35, 36, 37, 75, 76, 77, 104, 105, 106, 107, 15, 13, 82, 83, 84, 85, 16, 86, 87, 88, 89, 90, 91, 92, 93, 94, 95, 96, 158, 159, 160, 161] (by decide +kernel) (by decide +kernel)) (goodIn_sub (fun _ h => List.mem_append_right _ h) (by decide +kernel))
set_option maxRecDepth 20000 in
theorem gL_law_L_plain : GoodIn wsL_law (va_wsS RL 71 yL_plain wsL_plain) := goodIn_app (goodIn_of _ (by decide +kernel)) ggL_law_L_plain
set_option maxRecDepth 20000 in
theorem ggL_law_X0_best : GoodIn wsL_law wsX0_best := goodIn_r _ [111, 14, 112, 113, 114, 2, 115, 116, 117, 118, 119, 15, 93, 94, 95, 96, 86, 87, 88, 89, 13, 82, 83, 84, 85, 16, 90, 91, 92, 78, 79, 80, 81, 158, 159, 160, 161] (by decide +kernel) (by decide +kernel)
set_option maxRecDepth 20000 in
theorem gL_law_X0_best : GoodIn wsL_law (wsV RL 74 RX0 yX0_best wsX0_best) := goodIn_app (goodIn_of _ (by decide +kernel)) ggL_law_X0_best
set_option maxRecDepth 20000 in
theorem ggL_law_L_undo : GoodIn wsL_law wsL_undo := goodIn_ca (goodIn_r _ [122, 28, 123, 124, 125, 2, 126, 127, 14, 128, 129, 95, 130, 33, 34, 35, 36, 37, 104, 105, 106, 107, 15, 13, 82, 83, 84, 85, 16, 86, 87, 88, 89, 90, 91, 92, 93, 94, 96, 158, 159, 160, 161] (by decide +kernel) (by decide +kernel)) (goodIn_sub (fun _ h => List.mem_append_right _ h) (by decide +kernel))
set_option maxRecDepth 20000 in
theorem gL_law_L_undo : GoodIn wsL_law (va_wsS RL 78 yL_undo wsL_undo) := goodIn_app (goodIn_of _ (by decide +kernel)) ggL_law_L_undo
set_option maxRecDepth 20000 in
theorem ggL_law_X0_hash : GoodIn wsL_law wsX0_hash := goodIn_r _ [134, 14, 15, 13, 158, 159, 160, 161] (by decide +kernel) (by decide +kernel)
set_option maxRecDepth 20000 in
theorem gL_law_X0_hash : GoodIn wsL_law (wsV RL 82 RX0 yX0_hash wsX0_hash) := goodIn_app (goodIn_of _ (by decide +kernel)) ggL_law_X0_hash
set_option maxRecDepth 20000 in
theorem ggL_law_L_pass : GoodIn wsL_law wsL_pass := goodIn_ca (goodIn_r _ [137, 28, 138, 139, 140, 2, 141, 142, 143, 144, 145, 146, 33, 34, 35, 36, 37, 147, 148, 149] (by decide +kernel) (by decide +kernel)) (goodIn_sub (fun _ h => List.mem_append_right _ h) (by decide +kernel))
set_option maxRecDepth 20000 in
theorem gL_law_L_pass : GoodIn wsL_law (va_wsS RL 86 yL_pass wsL_pass) := goodIn_app (goodIn_of _ (by decide +kernel)) ggL_law_L_pass
set_option maxRecDepth 20000 in
theorem ggL_law_L_passOf : GoodIn wsL_law wsL_passOf := goodIn_ca (goodIn_r _ [152, 28, 153, 154, 155, 2, 156, 157, 144, 143, 146, 145, 33, 34, 35, 36, 37] (by decide +kernel) (by decide +kernel)) (goodIn_sub (fun _ h => List.mem_append_right _ h) (by decide +kernel))
set_option maxRecDepth 20000 in
theorem gL_law_L_passOf : GoodIn wsL_law (va_wsS RL 90 yL_passOf wsL_passOf) := goodIn_app (goodIn_of _ (by decide +kernel)) ggL_law_L_passOf
end
section
def wsM0 : List Cond := [.code yY1_init cY1_init 1 none, .code objectInit ⟨#[0xb1]⟩ 1 none, .code yY1_open cY1_open 5 none, .code yY1_thrown cY1_thrown 1 (some .int), .code yY1_set cY1_set 5 (some .int), .code yY1_out cY1_out 3 (some .boolean), .code yY1_fail cY1_fail 2 (some .int), .code yY1_get cY1_get 3 (some .int), .code yY1_fill cY1_fill 5 none, .code yY1_filter cY1_filter 5 none, .code yY1_bad cY1_bad 3 (some .boolean), .code yY1_tell cY1_tell 6 (some .int), .code yY1_guess cY1_guess 11 (some .int), .code Lib.Math.abs.name Lib.Math.abs.code 1 (some .int), .code yY1_at cY1_at 3 (some .int), .code yY1_plain cY1_plain 3 none, .code yY1_untell cY1_untell 4 none, .code yY1_best cY1_best 7 (some .int), .code yY1_undo cY1_undo 4 none, .code yY1_hash cY1_hash 3 (some .int), .code yY1_pass cY1_pass 8 (some .int), .code yY1_column cY1_column 3 (some .boolean), .code yY1_line cY1_line 3 (some .boolean), .code yY1_passOf cY1_passOf 4 (some .int)]
def wsM1 : List Cond := [.methodLink RL 44 yY1_init, .instanceMethod yY1_init, .initialized RX1, .methodLink RX1 1 objectInit, .instanceMethod objectInit, .fieldLink RX1 7 "RowFiltersModel" "height" "I", .fieldLink RX1 13 "RowFiltersModel" "width" "I", .fieldLink RX1 16 "RowFiltersModel" "step" "I", .arrayClass .int, .fieldLink RX1 19 "RowFiltersModel" "bytes" "[I", .fieldLink RX1 23 "RowFiltersModel" "told" "[I", .methodLink RL 50 yY1_open, .instanceMethod yY1_open, .selects RX1 yY1_open yY1_open, .fieldLink RX1 26 "RowFiltersModel" "failed" "I", .methodLink RL 51 yY1_thrown, .instanceMethod yY1_thrown, .selects RX1 yY1_thrown yY1_thrown, .methodLink RL 58 yY1_set, .instanceMethod yY1_set, .selects RX1 yY1_set yY1_set, .methodLink RX1 29 yY1_out, .instanceMethod yY1_out, .selects RX1 yY1_out yY1_out]
def wsM2 : List Cond := [.methodLink RX1 33 yY1_fail, .instanceMethod yY1_fail, .selects RX1 yY1_fail yY1_fail, .methodLink RL 62 yY1_get, .instanceMethod yY1_get, .selects RX1 yY1_get yY1_get, .methodLink RL 66 yY1_fill, .instanceMethod yY1_fill, .selects RX1 yY1_fill yY1_fill, .methodLink RL 70 yY1_filter, .instanceMethod yY1_filter, .selects RX1 yY1_filter yY1_filter, .methodLink RX1 50 yY1_bad, .instanceMethod yY1_bad, .selects RX1 yY1_bad yY1_bad, .methodLink RX1 53 yY1_tell, .instanceMethod yY1_tell, .selects RX1 yY1_tell yY1_tell, .methodLink RX1 46 yY1_guess, .instanceMethod yY1_guess, .selects RX1 yY1_guess yY1_guess, .methodLink RX1 37 yY1_at, .instanceMethod yY1_at, .selects RX1 yY1_at yY1_at]
def wsM3 : List Cond := [.methodLink RX1 41 Lib.Math.abs.name, .static Lib.Math.abs.name, .initialized "java/lang/Math", .methodLink RL 73 yY1_plain, .instanceMethod yY1_plain, .selects RX1 yY1_plain yY1_plain, .methodLink RX1 56 yY1_untell, .instanceMethod yY1_untell, .selects RX1 yY1_untell yY1_untell, .methodLink RL 77 yY1_best, .instanceMethod yY1_best, .selects RX1 yY1_best yY1_best, .methodLink RL 81 yY1_undo, .instanceMethod yY1_undo, .selects RX1 yY1_undo yY1_undo, .constant RX1 60 (390624), .methodLink RL 85 yY1_hash, .instanceMethod yY1_hash, .selects RX1 yY1_hash yY1_hash, .methodLink RL 89 yY1_pass, .instanceMethod yY1_pass, .selects RX1 yY1_pass yY1_pass, .constant RX1 61 (100000), .methodLink RX1 62 yY1_column]
def wsM4 : List Cond := [.instanceMethod yY1_column, .selects RX1 yY1_column yY1_column, .methodLink RX1 65 yY1_line, .instanceMethod yY1_line, .selects RX1 yY1_line yY1_line, .methodLink RL 92 yY1_passOf, .instanceMethod yY1_passOf, .selects RX1 yY1_passOf yY1_passOf, .constant RX1 68 (99999), .classLink RL 42 RX1, .instantiable RX1 6, .arrayClass .long]
def wsM : List Cond := wsM0 ++ (wsM1 ++ (wsM2 ++ (wsM3 ++ (wsM4 ++ wsY10))))
set_option maxRecDepth 20000 in
theorem wsM_in : ∀ w ∈ wsM, w ∈ lw_tbl := fun w h => (goodIn_p wsM [252, 34, 280, 276, 284, 288, 292, 296, 300, 304, 308, 312, 316, 78, 320, 325, 329, 333, 337, 342, 346, 351, 355, 359] (by decide +kernel) (by decide +kernel) w h).1
set_option maxRecDepth 20000 in
theorem gL_law_Y1_init : GoodIn wsM wsY1_init := goodIn_p _ [0, 1] (by decide +kernel) (by decide +kernel)
set_option maxRecDepth 20000 in
theorem gL_law_Y1_open : GoodIn wsM (wsV RL 50 RX1 yY1_open wsY1_open) := goodIn_p _ [2] (by decide +kernel) (by decide +kernel)
set_option maxRecDepth 20000 in
theorem gL_law_Y1_thrown : GoodIn wsM (wsV RL 51 RX1 yY1_thrown wsY1_thrown) := goodIn_p _ [3] (by decide +kernel) (by decide +kernel)
set_option maxRecDepth 20000 in
theorem gL_law_Y1_set : GoodIn wsM (wsV RL 58 RX1 yY1_set wsY1_set) := goodIn_p _ [4, 5, 6] (by decide +kernel) (by decide +kernel)
set_option maxRecDepth 20000 in
theorem gL_law_Y1_get : GoodIn wsM (wsV RL 62 RX1 yY1_get wsY1_get) := goodIn_p _ [7, 5, 6] (by decide +kernel) (by decide +kernel)
set_option maxRecDepth 20000 in
theorem gL_law_Y1_fill : GoodIn wsM (wsV RL 66 RX1 yY1_fill wsY1_fill) := goodIn_p _ [8] (by decide +kernel) (by decide +kernel)
set_option maxRecDepth 20000 in
theorem gL_law_Y1_filter : GoodIn wsM (wsV RL 70 RX1 yY1_filter wsY1_filter) := goodIn_p _ [9, 10, 11, 12, 13, 14] (by decide +kernel) (by decide +kernel)
set_option maxRecDepth 20000 in
theorem gL_law_Y1_plain : GoodIn wsM (wsV RL 73 RX1 yY1_plain wsY1_plain) := goodIn_p _ [15, 10, 16, 12, 13, 14] (by decide +kernel) (by decide +kernel)
set_option maxRecDepth 20000 in
theorem gL_law_Y1_best : GoodIn wsM (wsV RL 77 RX1 yY1_best wsY1_best) := goodIn_p _ [17, 11, 12, 13, 14] (by decide +kernel) (by decide +kernel)
set_option maxRecDepth 20000 in
theorem gL_law_Y1_undo : GoodIn wsM (wsV RL 81 RX1 yY1_undo wsY1_undo) := goodIn_p _ [18, 16, 12, 13, 14] (by decide +kernel) (by decide +kernel)
set_option maxRecDepth 20000 in
theorem gL_law_Y1_hash : GoodIn wsM (wsV RL 85 RX1 yY1_hash wsY1_hash) := goodIn_p _ [19] (by decide +kernel) (by decide +kernel)
set_option maxRecDepth 20000 in
theorem gL_law_Y1_pass : GoodIn wsM (wsV RL 89 RX1 yY1_pass wsY1_pass) := goodIn_p _ [20, 6, 21, 22] (by decide +kernel) (by decide +kernel)
set_option maxRecDepth 20000 in
theorem gL_law_Y1_passOf : GoodIn wsM (wsV RL 92 RX1 yY1_passOf wsY1_passOf) := goodIn_p _ [23, 6, 21, 22] (by decide +kernel) (by decide +kernel)
end
section
theorem dL_law_0 : decode cL_law 0 = .ok (.new 8, 3) := by decide +kernel
theorem dL_law_3 : decode cL_law 3 = .ok (.dup, 1) := by decide +kernel
theorem dL_law_4 : decode cL_law 4 = .ok (.invokespecial 41, 3) := by decide +kernel
theorem dL_law_7 : decode cL_law 7 = .ok (.astore_n 1, 1) := by decide +kernel
theorem dL_law_8 : decode cL_law 8 = .ok (.new 42, 3) := by decide +kernel
theorem dL_law_11 : decode cL_law 11 = .ok (.dup, 1) := by decide +kernel
theorem dL_law_12 : decode cL_law 12 = .ok (.invokespecial 44, 3) := by decide +kernel
theorem dL_law_15 : decode cL_law 15 = .ok (.astore_n 2, 1) := by decide +kernel
theorem dL_law_16 : decode cL_law 16 = .ok (.iconst 1, 1) := by decide +kernel
theorem dL_law_17 : decode cL_law 17 = .ok (.newarray .long, 2) := by decide +kernel
theorem dL_law_19 : decode cL_law 19 = .ok (.astore_n 3, 1) := by decide +kernel
theorem dL_law_20 : decode cL_law 20 = .ok (.iconst 0, 1) := by decide +kernel
theorem dL_law_21 : decode cL_law 21 = .ok (.istore 4, 2) := by decide +kernel
theorem dL_law_23 : decode cL_law 23 = .ok (.iload 4, 2) := by decide +kernel
theorem dL_law_25 : decode cL_law 25 = .ok (.aload_n 0, 1) := by decide +kernel
theorem dL_law_26 : decode cL_law 26 = .ok (.arraylength, 1) := by decide +kernel
theorem dL_law_27 : decode cL_law 27 = .ok (.iconst 5, 1) := by decide +kernel
theorem dL_law_28 : decode cL_law 28 = .ok (.isub, 1) := by decide +kernel
theorem dL_law_29 : decode cL_law 29 = .ok (.if_icmp .gt 662, 3) := by decide +kernel
theorem dL_law_32 : decode cL_law 32 = .ok (.aload_n 0, 1) := by decide +kernel
theorem dL_law_33 : decode cL_law 33 = .ok (.iload 4, 2) := by decide +kernel
theorem dL_law_35 : decode cL_law 35 = .ok (.iaload, 1) := by decide +kernel
theorem dL_law_36 : decode cL_law 36 = .ok (.bipush 15, 2) := by decide +kernel
theorem dL_law_38 : decode cL_law 38 = .ok (.iand, 1) := by decide +kernel
theorem dL_law_39 : decode cL_law 39 = .ok (.tableswitch 646 0 10 #[57, 117, 197, 265, 312, 360, 408, 421, 457, 470, 578], 57) := by decide +kernel
theorem dL_law_96 : decode cL_law 96 = .ok (.aload_n 1, 1) := by decide +kernel
theorem dL_law_97 : decode cL_law 97 = .ok (.aload_n 0, 1) := by decide +kernel
theorem dL_law_98 : decode cL_law 98 = .ok (.iload 4, 2) := by decide +kernel
theorem dL_law_100 : decode cL_law 100 = .ok (.iconst 1, 1) := by decide +kernel
theorem dL_law_101 : decode cL_law 101 = .ok (.iadd, 1) := by decide +kernel
theorem dL_law_102 : decode cL_law 102 = .ok (.iaload, 1) := by decide +kernel
theorem dL_law_103 : decode cL_law 103 = .ok (.aload_n 0, 1) := by decide +kernel
theorem dL_law_104 : decode cL_law 104 = .ok (.iload 4, 2) := by decide +kernel
theorem dL_law_106 : decode cL_law 106 = .ok (.iconst 2, 1) := by decide +kernel
theorem dL_law_107 : decode cL_law 107 = .ok (.iadd, 1) := by decide +kernel
theorem dL_law_108 : decode cL_law 108 = .ok (.iaload, 1) := by decide +kernel
theorem dL_law_109 : decode cL_law 109 = .ok (.aload_n 0, 1) := by decide +kernel
theorem dL_law_110 : decode cL_law 110 = .ok (.iload 4, 2) := by decide +kernel
theorem dL_law_112 : decode cL_law 112 = .ok (.iconst 3, 1) := by decide +kernel
theorem dL_law_113 : decode cL_law 113 = .ok (.iadd, 1) := by decide +kernel
theorem dL_law_114 : decode cL_law 114 = .ok (.iaload, 1) := by decide +kernel
theorem dL_law_115 : decode cL_law 115 = .ok (.invokestatic 45, 3) := by decide +kernel
theorem dL_law_118 : decode cL_law 118 = .ok (.istore 5, 2) := by decide +kernel
theorem dL_law_120 : decode cL_law 120 = .ok (.aload_n 2, 1) := by decide +kernel
theorem dL_law_121 : decode cL_law 121 = .ok (.aload_n 0, 1) := by decide +kernel
theorem dL_law_122 : decode cL_law 122 = .ok (.iload 4, 2) := by decide +kernel
theorem dL_law_124 : decode cL_law 124 = .ok (.iconst 1, 1) := by decide +kernel
theorem dL_law_125 : decode cL_law 125 = .ok (.iadd, 1) := by decide +kernel
theorem dL_law_126 : decode cL_law 126 = .ok (.iaload, 1) := by decide +kernel
theorem dL_law_127 : decode cL_law 127 = .ok (.aload_n 0, 1) := by decide +kernel
theorem dL_law_128 : decode cL_law 128 = .ok (.iload 4, 2) := by decide +kernel
theorem dL_law_130 : decode cL_law 130 = .ok (.iconst 2, 1) := by decide +kernel
theorem dL_law_131 : decode cL_law 131 = .ok (.iadd, 1) := by decide +kernel
theorem dL_law_132 : decode cL_law 132 = .ok (.iaload, 1) := by decide +kernel
theorem dL_law_133 : decode cL_law 133 = .ok (.aload_n 0, 1) := by decide +kernel
theorem dL_law_134 : decode cL_law 134 = .ok (.iload 4, 2) := by decide +kernel
theorem dL_law_136 : decode cL_law 136 = .ok (.iconst 3, 1) := by decide +kernel
theorem dL_law_137 : decode cL_law 137 = .ok (.iadd, 1) := by decide +kernel
theorem dL_law_138 : decode cL_law 138 = .ok (.iaload, 1) := by decide +kernel
theorem dL_law_139 : decode cL_law 139 = .ok (.invokevirtual 50, 3) := by decide +kernel
theorem dL_law_142 : decode cL_law 142 = .ok (.aload_n 2, 1) := by decide +kernel
theorem dL_law_143 : decode cL_law 143 = .ok (.invokevirtual 51, 3) := by decide +kernel
theorem dL_law_146 : decode cL_law 146 = .ok (.iload 5, 2) := by decide +kernel
theorem dL_law_148 : decode cL_law 148 = .ok (.if_icmp .eq 5, 3) := by decide +kernel
theorem dL_law_151 : decode cL_law 151 = .ok (.iconst 0, 1) := by decide +kernel
theorem dL_law_152 : decode cL_law 152 = .ok (.ireturn, 1) := by decide +kernel
theorem dL_law_153 : decode cL_law 153 = .ok (.goto 532, 3) := by decide +kernel
theorem dL_law_156 : decode cL_law 156 = .ok (.aload_n 1, 1) := by decide +kernel
theorem dL_law_157 : decode cL_law 157 = .ok (.aload_n 0, 1) := by decide +kernel
theorem dL_law_158 : decode cL_law 158 = .ok (.iload 4, 2) := by decide +kernel
theorem dL_law_160 : decode cL_law 160 = .ok (.iconst 1, 1) := by decide +kernel
theorem dL_law_161 : decode cL_law 161 = .ok (.iadd, 1) := by decide +kernel
theorem dL_law_162 : decode cL_law 162 = .ok (.iaload, 1) := by decide +kernel
theorem dL_law_163 : decode cL_law 163 = .ok (.aload_n 0, 1) := by decide +kernel
theorem dL_law_164 : decode cL_law 164 = .ok (.iload 4, 2) := by decide +kernel
theorem dL_law_166 : decode cL_law 166 = .ok (.iconst 2, 1) := by decide +kernel
theorem dL_law_167 : decode cL_law 167 = .ok (.iadd, 1) := by decide +kernel
theorem dL_law_168 : decode cL_law 168 = .ok (.iaload, 1) := by decide +kernel
theorem dL_law_169 : decode cL_law 169 = .ok (.aload_n 0, 1) := by decide +kernel
theorem dL_law_170 : decode cL_law 170 = .ok (.iload 4, 2) := by decide +kernel
theorem dL_law_172 : decode cL_law 172 = .ok (.iconst 3, 1) := by decide +kernel
theorem dL_law_173 : decode cL_law 173 = .ok (.iadd, 1) := by decide +kernel
theorem dL_law_174 : decode cL_law 174 = .ok (.iaload, 1) := by decide +kernel
theorem dL_law_175 : decode cL_law 175 = .ok (.aload_n 3, 1) := by decide +kernel
theorem dL_law_176 : decode cL_law 176 = .ok (.invokestatic 55, 3) := by decide +kernel
theorem dL_law_179 : decode cL_law 179 = .ok (.istore 5, 2) := by decide +kernel
theorem dL_law_181 : decode cL_law 181 = .ok (.aload_n 2, 1) := by decide +kernel
theorem dL_law_182 : decode cL_law 182 = .ok (.aload_n 0, 1) := by decide +kernel
theorem dL_law_183 : decode cL_law 183 = .ok (.iload 4, 2) := by decide +kernel
theorem dL_law_185 : decode cL_law 185 = .ok (.iconst 1, 1) := by decide +kernel
theorem dL_law_186 : decode cL_law 186 = .ok (.iadd, 1) := by decide +kernel
theorem dL_law_187 : decode cL_law 187 = .ok (.iaload, 1) := by decide +kernel
theorem dL_law_188 : decode cL_law 188 = .ok (.aload_n 0, 1) := by decide +kernel
theorem dL_law_189 : decode cL_law 189 = .ok (.iload 4, 2) := by decide +kernel
theorem dL_law_191 : decode cL_law 191 = .ok (.iconst 2, 1) := by decide +kernel
theorem dL_law_192 : decode cL_law 192 = .ok (.iadd, 1) := by decide +kernel
theorem dL_law_193 : decode cL_law 193 = .ok (.iaload, 1) := by decide +kernel
theorem dL_law_194 : decode cL_law 194 = .ok (.aload_n 0, 1) := by decide +kernel
theorem dL_law_195 : decode cL_law 195 = .ok (.iload 4, 2) := by decide +kernel
theorem dL_law_197 : decode cL_law 197 = .ok (.iconst 3, 1) := by decide +kernel
theorem dL_law_198 : decode cL_law 198 = .ok (.iadd, 1) := by decide +kernel
theorem dL_law_199 : decode cL_law 199 = .ok (.iaload, 1) := by decide +kernel
theorem dL_law_200 : decode cL_law 200 = .ok (.invokevirtual 58, 3) := by decide +kernel
theorem dL_law_203 : decode cL_law 203 = .ok (.istore 6, 2) := by decide +kernel
theorem dL_law_205 : decode cL_law 205 = .ok (.aload_n 2, 1) := by decide +kernel
theorem dL_law_206 : decode cL_law 206 = .ok (.invokevirtual 51, 3) := by decide +kernel
theorem dL_law_209 : decode cL_law 209 = .ok (.iload 5, 2) := by decide +kernel
theorem dL_law_211 : decode cL_law 211 = .ok (.if_icmp .eq 5, 3) := by decide +kernel
theorem dL_law_214 : decode cL_law 214 = .ok (.iconst 0, 1) := by decide +kernel
theorem dL_law_215 : decode cL_law 215 = .ok (.ireturn, 1) := by decide +kernel
theorem dL_law_216 : decode cL_law 216 = .ok (.iload 5, 2) := by decide +kernel
theorem dL_law_218 : decode cL_law 218 = .ok (.ifCond .ne 15, 3) := by decide +kernel
theorem dL_law_221 : decode cL_law 221 = .ok (.aload_n 3, 1) := by decide +kernel
theorem dL_law_222 : decode cL_law 222 = .ok (.iconst 0, 1) := by decide +kernel
theorem dL_law_223 : decode cL_law 223 = .ok (.laload, 1) := by decide +kernel
theorem dL_law_224 : decode cL_law 224 = .ok (.iload 6, 2) := by decide +kernel
theorem dL_law_226 : decode cL_law 226 = .ok (.i2l, 1) := by decide +kernel
theorem dL_law_227 : decode cL_law 227 = .ok (.lcmp, 1) := by decide +kernel
theorem dL_law_228 : decode cL_law 228 = .ok (.ifCond .eq 5, 3) := by decide +kernel
theorem dL_law_231 : decode cL_law 231 = .ok (.iconst 0, 1) := by decide +kernel
theorem dL_law_232 : decode cL_law 232 = .ok (.ireturn, 1) := by decide +kernel
theorem dL_law_233 : decode cL_law 233 = .ok (.goto 452, 3) := by decide +kernel
theorem dL_law_236 : decode cL_law 236 = .ok (.aload_n 1, 1) := by decide +kernel
theorem dL_law_237 : decode cL_law 237 = .ok (.aload_n 0, 1) := by decide +kernel
theorem dL_law_238 : decode cL_law 238 = .ok (.iload 4, 2) := by decide +kernel
theorem dL_law_240 : decode cL_law 240 = .ok (.iconst 1, 1) := by decide +kernel
theorem dL_law_241 : decode cL_law 241 = .ok (.iadd, 1) := by decide +kernel
theorem dL_law_242 : decode cL_law 242 = .ok (.iaload, 1) := by decide +kernel
theorem dL_law_243 : decode cL_law 243 = .ok (.aload_n 0, 1) := by decide +kernel
theorem dL_law_244 : decode cL_law 244 = .ok (.iload 4, 2) := by decide +kernel
theorem dL_law_246 : decode cL_law 246 = .ok (.iconst 2, 1) := by decide +kernel
theorem dL_law_247 : decode cL_law 247 = .ok (.iadd, 1) := by decide +kernel
theorem dL_law_248 : decode cL_law 248 = .ok (.iaload, 1) := by decide +kernel
theorem dL_law_249 : decode cL_law 249 = .ok (.aload_n 3, 1) := by decide +kernel
theorem dL_law_250 : decode cL_law 250 = .ok (.invokestatic 59, 3) := by decide +kernel
theorem dL_law_253 : decode cL_law 253 = .ok (.istore 5, 2) := by decide +kernel
theorem dL_law_255 : decode cL_law 255 = .ok (.aload_n 2, 1) := by decide +kernel
theorem dL_law_256 : decode cL_law 256 = .ok (.aload_n 0, 1) := by decide +kernel
theorem dL_law_257 : decode cL_law 257 = .ok (.iload 4, 2) := by decide +kernel
theorem dL_law_259 : decode cL_law 259 = .ok (.iconst 1, 1) := by decide +kernel
theorem dL_law_260 : decode cL_law 260 = .ok (.iadd, 1) := by decide +kernel
theorem dL_law_261 : decode cL_law 261 = .ok (.iaload, 1) := by decide +kernel
theorem dL_law_262 : decode cL_law 262 = .ok (.aload_n 0, 1) := by decide +kernel
theorem dL_law_263 : decode cL_law 263 = .ok (.iload 4, 2) := by decide +kernel
theorem dL_law_265 : decode cL_law 265 = .ok (.iconst 2, 1) := by decide +kernel
theorem dL_law_266 : decode cL_law 266 = .ok (.iadd, 1) := by decide +kernel
theorem dL_law_267 : decode cL_law 267 = .ok (.iaload, 1) := by decide +kernel
theorem dL_law_268 : decode cL_law 268 = .ok (.invokevirtual 62, 3) := by decide +kernel
theorem dL_law_271 : decode cL_law 271 = .ok (.istore 6, 2) := by decide +kernel
theorem dL_law_273 : decode cL_law 273 = .ok (.aload_n 2, 1) := by decide +kernel
theorem dL_law_274 : decode cL_law 274 = .ok (.invokevirtual 51, 3) := by decide +kernel
theorem dL_law_277 : decode cL_law 277 = .ok (.iload 5, 2) := by decide +kernel
theorem dL_law_279 : decode cL_law 279 = .ok (.if_icmp .eq 5, 3) := by decide +kernel
theorem dL_law_282 : decode cL_law 282 = .ok (.iconst 0, 1) := by decide +kernel
theorem dL_law_283 : decode cL_law 283 = .ok (.ireturn, 1) := by decide +kernel
theorem dL_law_284 : decode cL_law 284 = .ok (.iload 5, 2) := by decide +kernel
theorem dL_law_286 : decode cL_law 286 = .ok (.ifCond .ne 15, 3) := by decide +kernel
theorem dL_law_289 : decode cL_law 289 = .ok (.aload_n 3, 1) := by decide +kernel
theorem dL_law_290 : decode cL_law 290 = .ok (.iconst 0, 1) := by decide +kernel
theorem dL_law_291 : decode cL_law 291 = .ok (.laload, 1) := by decide +kernel
theorem dL_law_292 : decode cL_law 292 = .ok (.iload 6, 2) := by decide +kernel
theorem dL_law_294 : decode cL_law 294 = .ok (.i2l, 1) := by decide +kernel
theorem dL_law_295 : decode cL_law 295 = .ok (.lcmp, 1) := by decide +kernel
theorem dL_law_296 : decode cL_law 296 = .ok (.ifCond .eq 5, 3) := by decide +kernel
theorem dL_law_299 : decode cL_law 299 = .ok (.iconst 0, 1) := by decide +kernel
theorem dL_law_300 : decode cL_law 300 = .ok (.ireturn, 1) := by decide +kernel
theorem dL_law_301 : decode cL_law 301 = .ok (.goto 384, 3) := by decide +kernel
theorem dL_law_304 : decode cL_law 304 = .ok (.aload_n 1, 1) := by decide +kernel
theorem dL_law_305 : decode cL_law 305 = .ok (.aload_n 0, 1) := by decide +kernel
theorem dL_law_306 : decode cL_law 306 = .ok (.iload 4, 2) := by decide +kernel
theorem dL_law_308 : decode cL_law 308 = .ok (.iconst 1, 1) := by decide +kernel
theorem dL_law_309 : decode cL_law 309 = .ok (.iadd, 1) := by decide +kernel
theorem dL_law_310 : decode cL_law 310 = .ok (.iaload, 1) := by decide +kernel
theorem dL_law_311 : decode cL_law 311 = .ok (.aload_n 0, 1) := by decide +kernel
theorem dL_law_312 : decode cL_law 312 = .ok (.iload 4, 2) := by decide +kernel
theorem dL_law_314 : decode cL_law 314 = .ok (.iconst 2, 1) := by decide +kernel
theorem dL_law_315 : decode cL_law 315 = .ok (.iadd, 1) := by decide +kernel
theorem dL_law_316 : decode cL_law 316 = .ok (.iaload, 1) := by decide +kernel
theorem dL_law_317 : decode cL_law 317 = .ok (.aload_n 0, 1) := by decide +kernel
theorem dL_law_318 : decode cL_law 318 = .ok (.iload 4, 2) := by decide +kernel
theorem dL_law_320 : decode cL_law 320 = .ok (.iconst 3, 1) := by decide +kernel
theorem dL_law_321 : decode cL_law 321 = .ok (.iadd, 1) := by decide +kernel
theorem dL_law_322 : decode cL_law 322 = .ok (.iaload, 1) := by decide +kernel
theorem dL_law_323 : decode cL_law 323 = .ok (.invokevirtual 63, 3) := by decide +kernel
theorem dL_law_326 : decode cL_law 326 = .ok (.aload_n 2, 1) := by decide +kernel
theorem dL_law_327 : decode cL_law 327 = .ok (.aload_n 0, 1) := by decide +kernel
theorem dL_law_328 : decode cL_law 328 = .ok (.iload 4, 2) := by decide +kernel
theorem dL_law_330 : decode cL_law 330 = .ok (.iconst 1, 1) := by decide +kernel
theorem dL_law_331 : decode cL_law 331 = .ok (.iadd, 1) := by decide +kernel
theorem dL_law_332 : decode cL_law 332 = .ok (.iaload, 1) := by decide +kernel
theorem dL_law_333 : decode cL_law 333 = .ok (.aload_n 0, 1) := by decide +kernel
theorem dL_law_334 : decode cL_law 334 = .ok (.iload 4, 2) := by decide +kernel
theorem dL_law_336 : decode cL_law 336 = .ok (.iconst 2, 1) := by decide +kernel
theorem dL_law_337 : decode cL_law 337 = .ok (.iadd, 1) := by decide +kernel
theorem dL_law_338 : decode cL_law 338 = .ok (.iaload, 1) := by decide +kernel
theorem dL_law_339 : decode cL_law 339 = .ok (.aload_n 0, 1) := by decide +kernel
theorem dL_law_340 : decode cL_law 340 = .ok (.iload 4, 2) := by decide +kernel
theorem dL_law_342 : decode cL_law 342 = .ok (.iconst 3, 1) := by decide +kernel
theorem dL_law_343 : decode cL_law 343 = .ok (.iadd, 1) := by decide +kernel
theorem dL_law_344 : decode cL_law 344 = .ok (.iaload, 1) := by decide +kernel
theorem dL_law_345 : decode cL_law 345 = .ok (.invokevirtual 66, 3) := by decide +kernel
theorem dL_law_348 : decode cL_law 348 = .ok (.goto 337, 3) := by decide +kernel
theorem dL_law_351 : decode cL_law 351 = .ok (.aload_n 1, 1) := by decide +kernel
theorem dL_law_352 : decode cL_law 352 = .ok (.aload_n 0, 1) := by decide +kernel
theorem dL_law_353 : decode cL_law 353 = .ok (.iload 4, 2) := by decide +kernel
theorem dL_law_355 : decode cL_law 355 = .ok (.iconst 1, 1) := by decide +kernel
theorem dL_law_356 : decode cL_law 356 = .ok (.iadd, 1) := by decide +kernel
theorem dL_law_357 : decode cL_law 357 = .ok (.iaload, 1) := by decide +kernel
theorem dL_law_358 : decode cL_law 358 = .ok (.aload_n 0, 1) := by decide +kernel
theorem dL_law_359 : decode cL_law 359 = .ok (.iload 4, 2) := by decide +kernel
theorem dL_law_361 : decode cL_law 361 = .ok (.iconst 2, 1) := by decide +kernel
theorem dL_law_362 : decode cL_law 362 = .ok (.iadd, 1) := by decide +kernel
theorem dL_law_363 : decode cL_law 363 = .ok (.iaload, 1) := by decide +kernel
theorem dL_law_364 : decode cL_law 364 = .ok (.invokestatic 67, 3) := by decide +kernel
theorem dL_law_367 : decode cL_law 367 = .ok (.istore 5, 2) := by decide +kernel
theorem dL_law_369 : decode cL_law 369 = .ok (.aload_n 2, 1) := by decide +kernel
theorem dL_law_370 : decode cL_law 370 = .ok (.aload_n 0, 1) := by decide +kernel
theorem dL_law_371 : decode cL_law 371 = .ok (.iload 4, 2) := by decide +kernel
theorem dL_law_373 : decode cL_law 373 = .ok (.iconst 1, 1) := by decide +kernel
theorem dL_law_374 : decode cL_law 374 = .ok (.iadd, 1) := by decide +kernel
theorem dL_law_375 : decode cL_law 375 = .ok (.iaload, 1) := by decide +kernel
theorem dL_law_376 : decode cL_law 376 = .ok (.aload_n 0, 1) := by decide +kernel
theorem dL_law_377 : decode cL_law 377 = .ok (.iload 4, 2) := by decide +kernel
theorem dL_law_379 : decode cL_law 379 = .ok (.iconst 2, 1) := by decide +kernel
theorem dL_law_380 : decode cL_law 380 = .ok (.iadd, 1) := by decide +kernel
theorem dL_law_381 : decode cL_law 381 = .ok (.iaload, 1) := by decide +kernel
theorem dL_law_382 : decode cL_law 382 = .ok (.invokevirtual 70, 3) := by decide +kernel
theorem dL_law_385 : decode cL_law 385 = .ok (.aload_n 2, 1) := by decide +kernel
theorem dL_law_386 : decode cL_law 386 = .ok (.invokevirtual 51, 3) := by decide +kernel
theorem dL_law_389 : decode cL_law 389 = .ok (.iload 5, 2) := by decide +kernel
theorem dL_law_391 : decode cL_law 391 = .ok (.if_icmp .eq 5, 3) := by decide +kernel
theorem dL_law_394 : decode cL_law 394 = .ok (.iconst 0, 1) := by decide +kernel
theorem dL_law_395 : decode cL_law 395 = .ok (.ireturn, 1) := by decide +kernel
theorem dL_law_396 : decode cL_law 396 = .ok (.goto 289, 3) := by decide +kernel
theorem dL_law_399 : decode cL_law 399 = .ok (.aload_n 1, 1) := by decide +kernel
theorem dL_law_400 : decode cL_law 400 = .ok (.aload_n 0, 1) := by decide +kernel
theorem dL_law_401 : decode cL_law 401 = .ok (.iload 4, 2) := by decide +kernel
theorem dL_law_403 : decode cL_law 403 = .ok (.iconst 1, 1) := by decide +kernel
theorem dL_law_404 : decode cL_law 404 = .ok (.iadd, 1) := by decide +kernel
theorem dL_law_405 : decode cL_law 405 = .ok (.iaload, 1) := by decide +kernel
theorem dL_law_406 : decode cL_law 406 = .ok (.aload_n 0, 1) := by decide +kernel
theorem dL_law_407 : decode cL_law 407 = .ok (.iload 4, 2) := by decide +kernel
theorem dL_law_409 : decode cL_law 409 = .ok (.iconst 2, 1) := by decide +kernel
theorem dL_law_410 : decode cL_law 410 = .ok (.iadd, 1) := by decide +kernel
theorem dL_law_411 : decode cL_law 411 = .ok (.iaload, 1) := by decide +kernel
theorem dL_law_412 : decode cL_law 412 = .ok (.invokestatic 71, 3) := by decide +kernel
theorem dL_law_415 : decode cL_law 415 = .ok (.istore 5, 2) := by decide +kernel
theorem dL_law_417 : decode cL_law 417 = .ok (.aload_n 2, 1) := by decide +kernel
theorem dL_law_418 : decode cL_law 418 = .ok (.aload_n 0, 1) := by decide +kernel
theorem dL_law_419 : decode cL_law 419 = .ok (.iload 4, 2) := by decide +kernel
theorem dL_law_421 : decode cL_law 421 = .ok (.iconst 1, 1) := by decide +kernel
theorem dL_law_422 : decode cL_law 422 = .ok (.iadd, 1) := by decide +kernel
theorem dL_law_423 : decode cL_law 423 = .ok (.iaload, 1) := by decide +kernel
theorem dL_law_424 : decode cL_law 424 = .ok (.aload_n 0, 1) := by decide +kernel
theorem dL_law_425 : decode cL_law 425 = .ok (.iload 4, 2) := by decide +kernel
theorem dL_law_427 : decode cL_law 427 = .ok (.iconst 2, 1) := by decide +kernel
theorem dL_law_428 : decode cL_law 428 = .ok (.iadd, 1) := by decide +kernel
theorem dL_law_429 : decode cL_law 429 = .ok (.iaload, 1) := by decide +kernel
theorem dL_law_430 : decode cL_law 430 = .ok (.invokevirtual 73, 3) := by decide +kernel
theorem dL_law_433 : decode cL_law 433 = .ok (.aload_n 2, 1) := by decide +kernel
theorem dL_law_434 : decode cL_law 434 = .ok (.invokevirtual 51, 3) := by decide +kernel
theorem dL_law_437 : decode cL_law 437 = .ok (.iload 5, 2) := by decide +kernel
theorem dL_law_439 : decode cL_law 439 = .ok (.if_icmp .eq 5, 3) := by decide +kernel
theorem dL_law_442 : decode cL_law 442 = .ok (.iconst 0, 1) := by decide +kernel
theorem dL_law_443 : decode cL_law 443 = .ok (.ireturn, 1) := by decide +kernel
theorem dL_law_444 : decode cL_law 444 = .ok (.goto 241, 3) := by decide +kernel
theorem dL_law_447 : decode cL_law 447 = .ok (.aload_n 1, 1) := by decide +kernel
theorem dL_law_448 : decode cL_law 448 = .ok (.invokevirtual 74, 3) := by decide +kernel
theorem dL_law_451 : decode cL_law 451 = .ok (.aload_n 2, 1) := by decide +kernel
theorem dL_law_452 : decode cL_law 452 = .ok (.invokevirtual 77, 3) := by decide +kernel
theorem dL_law_455 : decode cL_law 455 = .ok (.if_icmp .eq 230, 3) := by decide +kernel
theorem dL_law_458 : decode cL_law 458 = .ok (.iconst 0, 1) := by decide +kernel
theorem dL_law_459 : decode cL_law 459 = .ok (.ireturn, 1) := by decide +kernel
theorem dL_law_460 : decode cL_law 460 = .ok (.aload_n 1, 1) := by decide +kernel
theorem dL_law_461 : decode cL_law 461 = .ok (.aload_n 0, 1) := by decide +kernel
theorem dL_law_462 : decode cL_law 462 = .ok (.iload 4, 2) := by decide +kernel
theorem dL_law_464 : decode cL_law 464 = .ok (.iconst 1, 1) := by decide +kernel
theorem dL_law_465 : decode cL_law 465 = .ok (.iadd, 1) := by decide +kernel
theorem dL_law_466 : decode cL_law 466 = .ok (.iaload, 1) := by decide +kernel
theorem dL_law_467 : decode cL_law 467 = .ok (.invokestatic 78, 3) := by decide +kernel
theorem dL_law_470 : decode cL_law 470 = .ok (.istore 5, 2) := by decide +kernel
theorem dL_law_472 : decode cL_law 472 = .ok (.aload_n 2, 1) := by decide +kernel
theorem dL_law_473 : decode cL_law 473 = .ok (.aload_n 0, 1) := by decide +kernel
theorem dL_law_474 : decode cL_law 474 = .ok (.iload 4, 2) := by decide +kernel
theorem dL_law_476 : decode cL_law 476 = .ok (.iconst 1, 1) := by decide +kernel
theorem dL_law_477 : decode cL_law 477 = .ok (.iadd, 1) := by decide +kernel
theorem dL_law_478 : decode cL_law 478 = .ok (.iaload, 1) := by decide +kernel
theorem dL_law_479 : decode cL_law 479 = .ok (.invokevirtual 81, 3) := by decide +kernel
theorem dL_law_482 : decode cL_law 482 = .ok (.aload_n 2, 1) := by decide +kernel
theorem dL_law_483 : decode cL_law 483 = .ok (.invokevirtual 51, 3) := by decide +kernel
theorem dL_law_486 : decode cL_law 486 = .ok (.iload 5, 2) := by decide +kernel
theorem dL_law_488 : decode cL_law 488 = .ok (.if_icmp .eq 5, 3) := by decide +kernel
theorem dL_law_491 : decode cL_law 491 = .ok (.iconst 0, 1) := by decide +kernel
theorem dL_law_492 : decode cL_law 492 = .ok (.ireturn, 1) := by decide +kernel
theorem dL_law_493 : decode cL_law 493 = .ok (.goto 192, 3) := by decide +kernel
theorem dL_law_496 : decode cL_law 496 = .ok (.aload_n 1, 1) := by decide +kernel
theorem dL_law_497 : decode cL_law 497 = .ok (.invokevirtual 82, 3) := by decide +kernel
theorem dL_law_500 : decode cL_law 500 = .ok (.aload_n 2, 1) := by decide +kernel
theorem dL_law_501 : decode cL_law 501 = .ok (.invokevirtual 85, 3) := by decide +kernel
theorem dL_law_504 : decode cL_law 504 = .ok (.if_icmp .eq 181, 3) := by decide +kernel
theorem dL_law_507 : decode cL_law 507 = .ok (.iconst 0, 1) := by decide +kernel
theorem dL_law_508 : decode cL_law 508 = .ok (.ireturn, 1) := by decide +kernel
theorem dL_law_509 : decode cL_law 509 = .ok (.aload_n 1, 1) := by decide +kernel
theorem dL_law_510 : decode cL_law 510 = .ok (.aload_n 0, 1) := by decide +kernel
theorem dL_law_511 : decode cL_law 511 = .ok (.iload 4, 2) := by decide +kernel
theorem dL_law_513 : decode cL_law 513 = .ok (.iconst 1, 1) := by decide +kernel
theorem dL_law_514 : decode cL_law 514 = .ok (.iadd, 1) := by decide +kernel
theorem dL_law_515 : decode cL_law 515 = .ok (.iaload, 1) := by decide +kernel
theorem dL_law_516 : decode cL_law 516 = .ok (.aload_n 0, 1) := by decide +kernel
theorem dL_law_517 : decode cL_law 517 = .ok (.iload 4, 2) := by decide +kernel
theorem dL_law_519 : decode cL_law 519 = .ok (.iconst 2, 1) := by decide +kernel
theorem dL_law_520 : decode cL_law 520 = .ok (.iadd, 1) := by decide +kernel
theorem dL_law_521 : decode cL_law 521 = .ok (.iaload, 1) := by decide +kernel
theorem dL_law_522 : decode cL_law 522 = .ok (.aload_n 0, 1) := by decide +kernel
theorem dL_law_523 : decode cL_law 523 = .ok (.iload 4, 2) := by decide +kernel
theorem dL_law_525 : decode cL_law 525 = .ok (.iconst 3, 1) := by decide +kernel
theorem dL_law_526 : decode cL_law 526 = .ok (.iadd, 1) := by decide +kernel
theorem dL_law_527 : decode cL_law 527 = .ok (.iaload, 1) := by decide +kernel
theorem dL_law_528 : decode cL_law 528 = .ok (.aload_n 0, 1) := by decide +kernel
theorem dL_law_529 : decode cL_law 529 = .ok (.iload 4, 2) := by decide +kernel
theorem dL_law_531 : decode cL_law 531 = .ok (.iconst 4, 1) := by decide +kernel
theorem dL_law_532 : decode cL_law 532 = .ok (.iadd, 1) := by decide +kernel
theorem dL_law_533 : decode cL_law 533 = .ok (.iaload, 1) := by decide +kernel
theorem dL_law_534 : decode cL_law 534 = .ok (.ifCond .eq 7, 3) := by decide +kernel
theorem dL_law_537 : decode cL_law 537 = .ok (.iconst 1, 1) := by decide +kernel
theorem dL_law_538 : decode cL_law 538 = .ok (.goto 4, 3) := by decide +kernel
theorem dL_law_541 : decode cL_law 541 = .ok (.iconst 0, 1) := by decide +kernel
theorem dL_law_542 : decode cL_law 542 = .ok (.aload_n 3, 1) := by decide +kernel
theorem dL_law_543 : decode cL_law 543 = .ok (.invokestatic 86, 3) := by decide +kernel
theorem dL_law_546 : decode cL_law 546 = .ok (.istore 5, 2) := by decide +kernel
theorem dL_law_548 : decode cL_law 548 = .ok (.aload_n 2, 1) := by decide +kernel
theorem dL_law_549 : decode cL_law 549 = .ok (.aload_n 0, 1) := by decide +kernel
theorem dL_law_550 : decode cL_law 550 = .ok (.iload 4, 2) := by decide +kernel
theorem dL_law_552 : decode cL_law 552 = .ok (.iconst 1, 1) := by decide +kernel
theorem dL_law_553 : decode cL_law 553 = .ok (.iadd, 1) := by decide +kernel
theorem dL_law_554 : decode cL_law 554 = .ok (.iaload, 1) := by decide +kernel
theorem dL_law_555 : decode cL_law 555 = .ok (.aload_n 0, 1) := by decide +kernel
theorem dL_law_556 : decode cL_law 556 = .ok (.iload 4, 2) := by decide +kernel
theorem dL_law_558 : decode cL_law 558 = .ok (.iconst 2, 1) := by decide +kernel
theorem dL_law_559 : decode cL_law 559 = .ok (.iadd, 1) := by decide +kernel
theorem dL_law_560 : decode cL_law 560 = .ok (.iaload, 1) := by decide +kernel
theorem dL_law_561 : decode cL_law 561 = .ok (.aload_n 0, 1) := by decide +kernel
theorem dL_law_562 : decode cL_law 562 = .ok (.iload 4, 2) := by decide +kernel
theorem dL_law_564 : decode cL_law 564 = .ok (.iconst 3, 1) := by decide +kernel
theorem dL_law_565 : decode cL_law 565 = .ok (.iadd, 1) := by decide +kernel
theorem dL_law_566 : decode cL_law 566 = .ok (.iaload, 1) := by decide +kernel
theorem dL_law_567 : decode cL_law 567 = .ok (.aload_n 0, 1) := by decide +kernel
theorem dL_law_568 : decode cL_law 568 = .ok (.iload 4, 2) := by decide +kernel
theorem dL_law_570 : decode cL_law 570 = .ok (.iconst 4, 1) := by decide +kernel
theorem dL_law_571 : decode cL_law 571 = .ok (.iadd, 1) := by decide +kernel
theorem dL_law_572 : decode cL_law 572 = .ok (.iaload, 1) := by decide +kernel
theorem dL_law_573 : decode cL_law 573 = .ok (.ifCond .eq 7, 3) := by decide +kernel
theorem dL_law_576 : decode cL_law 576 = .ok (.iconst 1, 1) := by decide +kernel
theorem dL_law_577 : decode cL_law 577 = .ok (.goto 4, 3) := by decide +kernel
theorem dL_law_580 : decode cL_law 580 = .ok (.iconst 0, 1) := by decide +kernel
theorem dL_law_581 : decode cL_law 581 = .ok (.invokevirtual 89, 3) := by decide +kernel
theorem dL_law_584 : decode cL_law 584 = .ok (.istore 6, 2) := by decide +kernel
theorem dL_law_586 : decode cL_law 586 = .ok (.aload_n 2, 1) := by decide +kernel
theorem dL_law_587 : decode cL_law 587 = .ok (.invokevirtual 51, 3) := by decide +kernel
theorem dL_law_590 : decode cL_law 590 = .ok (.iload 5, 2) := by decide +kernel
theorem dL_law_592 : decode cL_law 592 = .ok (.if_icmp .eq 5, 3) := by decide +kernel
theorem dL_law_595 : decode cL_law 595 = .ok (.iconst 0, 1) := by decide +kernel
theorem dL_law_596 : decode cL_law 596 = .ok (.ireturn, 1) := by decide +kernel
theorem dL_law_597 : decode cL_law 597 = .ok (.iload 5, 2) := by decide +kernel
theorem dL_law_599 : decode cL_law 599 = .ok (.ifCond .ne 15, 3) := by decide +kernel
theorem dL_law_602 : decode cL_law 602 = .ok (.aload_n 3, 1) := by decide +kernel
theorem dL_law_603 : decode cL_law 603 = .ok (.iconst 0, 1) := by decide +kernel
theorem dL_law_604 : decode cL_law 604 = .ok (.laload, 1) := by decide +kernel
theorem dL_law_605 : decode cL_law 605 = .ok (.iload 6, 2) := by decide +kernel
theorem dL_law_607 : decode cL_law 607 = .ok (.i2l, 1) := by decide +kernel
theorem dL_law_608 : decode cL_law 608 = .ok (.lcmp, 1) := by decide +kernel
theorem dL_law_609 : decode cL_law 609 = .ok (.ifCond .eq 5, 3) := by decide +kernel
theorem dL_law_612 : decode cL_law 612 = .ok (.iconst 0, 1) := by decide +kernel
theorem dL_law_613 : decode cL_law 613 = .ok (.ireturn, 1) := by decide +kernel
theorem dL_law_614 : decode cL_law 614 = .ok (.goto 71, 3) := by decide +kernel
theorem dL_law_617 : decode cL_law 617 = .ok (.aload_n 1, 1) := by decide +kernel
theorem dL_law_618 : decode cL_law 618 = .ok (.aload_n 0, 1) := by decide +kernel
theorem dL_law_619 : decode cL_law 619 = .ok (.iload 4, 2) := by decide +kernel
theorem dL_law_621 : decode cL_law 621 = .ok (.iconst 1, 1) := by decide +kernel
theorem dL_law_622 : decode cL_law 622 = .ok (.iadd, 1) := by decide +kernel
theorem dL_law_623 : decode cL_law 623 = .ok (.iaload, 1) := by decide +kernel
theorem dL_law_624 : decode cL_law 624 = .ok (.aload_n 0, 1) := by decide +kernel
theorem dL_law_625 : decode cL_law 625 = .ok (.iload 4, 2) := by decide +kernel
theorem dL_law_627 : decode cL_law 627 = .ok (.iconst 2, 1) := by decide +kernel
theorem dL_law_628 : decode cL_law 628 = .ok (.iadd, 1) := by decide +kernel
theorem dL_law_629 : decode cL_law 629 = .ok (.iaload, 1) := by decide +kernel
theorem dL_law_630 : decode cL_law 630 = .ok (.aload_n 3, 1) := by decide +kernel
theorem dL_law_631 : decode cL_law 631 = .ok (.invokestatic 90, 3) := by decide +kernel
theorem dL_law_634 : decode cL_law 634 = .ok (.istore 5, 2) := by decide +kernel
theorem dL_law_636 : decode cL_law 636 = .ok (.aload_n 2, 1) := by decide +kernel
theorem dL_law_637 : decode cL_law 637 = .ok (.aload_n 0, 1) := by decide +kernel
theorem dL_law_638 : decode cL_law 638 = .ok (.iload 4, 2) := by decide +kernel
theorem dL_law_640 : decode cL_law 640 = .ok (.iconst 1, 1) := by decide +kernel
theorem dL_law_641 : decode cL_law 641 = .ok (.iadd, 1) := by decide +kernel
theorem dL_law_642 : decode cL_law 642 = .ok (.iaload, 1) := by decide +kernel
theorem dL_law_643 : decode cL_law 643 = .ok (.aload_n 0, 1) := by decide +kernel
theorem dL_law_644 : decode cL_law 644 = .ok (.iload 4, 2) := by decide +kernel
theorem dL_law_646 : decode cL_law 646 = .ok (.iconst 2, 1) := by decide +kernel
theorem dL_law_647 : decode cL_law 647 = .ok (.iadd, 1) := by decide +kernel
theorem dL_law_648 : decode cL_law 648 = .ok (.iaload, 1) := by decide +kernel
theorem dL_law_649 : decode cL_law 649 = .ok (.invokevirtual 92, 3) := by decide +kernel
theorem dL_law_652 : decode cL_law 652 = .ok (.istore 6, 2) := by decide +kernel
theorem dL_law_654 : decode cL_law 654 = .ok (.aload_n 2, 1) := by decide +kernel
theorem dL_law_655 : decode cL_law 655 = .ok (.invokevirtual 51, 3) := by decide +kernel
theorem dL_law_658 : decode cL_law 658 = .ok (.iload 5, 2) := by decide +kernel
theorem dL_law_660 : decode cL_law 660 = .ok (.if_icmp .eq 5, 3) := by decide +kernel
theorem dL_law_663 : decode cL_law 663 = .ok (.iconst 0, 1) := by decide +kernel
theorem dL_law_664 : decode cL_law 664 = .ok (.ireturn, 1) := by decide +kernel
theorem dL_law_665 : decode cL_law 665 = .ok (.iload 5, 2) := by decide +kernel
theorem dL_law_667 : decode cL_law 667 = .ok (.ifCond .ne 15, 3) := by decide +kernel
theorem dL_law_670 : decode cL_law 670 = .ok (.aload_n 3, 1) := by decide +kernel
theorem dL_law_671 : decode cL_law 671 = .ok (.iconst 0, 1) := by decide +kernel
theorem dL_law_672 : decode cL_law 672 = .ok (.laload, 1) := by decide +kernel
theorem dL_law_673 : decode cL_law 673 = .ok (.iload 6, 2) := by decide +kernel
theorem dL_law_675 : decode cL_law 675 = .ok (.i2l, 1) := by decide +kernel
theorem dL_law_676 : decode cL_law 676 = .ok (.lcmp, 1) := by decide +kernel
theorem dL_law_677 : decode cL_law 677 = .ok (.ifCond .eq 5, 3) := by decide +kernel
theorem dL_law_680 : decode cL_law 680 = .ok (.iconst 0, 1) := by decide +kernel
theorem dL_law_681 : decode cL_law 681 = .ok (.ireturn, 1) := by decide +kernel
theorem dL_law_682 : decode cL_law 682 = .ok (.goto 3, 3) := by decide +kernel
theorem dL_law_685 : decode cL_law 685 = .ok (.iinc 4 5, 3) := by decide +kernel
theorem dL_law_688 : decode cL_law 688 = .ok (.goto (-665), 3) := by decide +kernel
theorem dL_law_691 : decode cL_law 691 = .ok (.iconst 1, 1) := by decide +kernel
theorem dL_law_692 : decode cL_law 692 = .ok (.ireturn, 1) := by decide +kernel
end
section
theorem rw_loopC {p : Program} {l : Launch} {e : Env} {R : Room} {s : State} {m : MethodId} {args : Array Value} {below : List Frame} {meth : Method} {c : Code} {Q : State → Prop} {pc : Nat} {rest : List Value} (N : Nat) (cf sf : Nat → Nat) (I : Nat → Array Slot → Heap → List Loc → Prop)
    (step : ∀ (n : Nat) (ls : Array Slot) (H : Heap) (locs : List Loc), n ≤ N → I n ls H locs → (∀ (ls : Array Slot) (H : Heap) (locs : List Loc), n + 1 ≤ N → I (n + 1) ls H locs → W p l e R s m args below meth c H locs (cf (n + 1)) (sf (n + 1)) Q (F0 m pc ls rest)) → W p l e R s m args below meth c H locs (cf n) (sf n) Q (F0 m pc ls rest))
    {ls : Array Slot} {H : Heap} {locs : List Loc} (h : I 0 ls H locs) : W p l e R s m args below meth c H locs (cf 0) (sf 0) Q (F0 m pc ls rest) := by
  have key : ∀ (d n : Nat) (ls : Array Slot) (H : Heap) (locs : List Loc), n + d = N → I n ls H locs → W p l e R s m args below meth c H locs (cf n) (sf n) Q (F0 m pc ls rest) := by
    intro d
    induction d with
    | zero =>
      intro n ls H locs hn hI
      exact step n ls H locs (by omega) hI (fun ls' H' locs' h9 _ => absurd h9 (by omega))
    | succ d ih =>
      intro n ls H locs hn hI
      exact step n ls H locs (by omega) hI (fun ls' H' locs' _ hI' => ih (n + 1) ls' H' locs' (by omega) hI')
  exact key N 0 ls H locs (by omega) h
theorem rf_ge_x {rc : Nat} {y : Int32} (h1 : 1 ≤ rc) (h2 : rc ≤ 4096) (h : nI rc ≤ y) : nI rc - 1 < y := by
  obtain ⟨z, rfl⟩ : ∃ z, rc = z + 1 := ⟨rc - 1, by omega⟩
  rw [nI_pred, Int32.lt_iff_toInt_lt, nI_toInt (by omega)]
  rw [Int32.le_iff_toInt_le, nI_toInt (by omega)] at h
  omega
theorem rf_lt_n {rc : Nat} {y : Int32} (h2 : rc ≤ 4096) (h : ¬ y < 0) (h1 : ¬ nI rc ≤ y) : ∃ a, a < rc ∧ y = nI a := by
  obtain ⟨j, hj, rfl⟩ := nI_of h
  exact ⟨j, Nat.lt_of_not_le (fun q => h1 ((nI_leI (by omega) hj).mpr q)), rfl⟩
theorem rf_ot_x {rc rl ps : Nat} {y i : Int32} (ok : rf_ok rc rl ps) (h : rf_ot rc rl y i) : (y < 0 ∨ nI rc - 1 < y) ∨ (i < 0 ∨ nI rl - 1 < i) := by
  rcases h with h | h | h | h
  · exact Or.inl (Or.inl h)
  · exact Or.inl (Or.inr (rf_ge_x ok.1 ok.rc h))
  · exact Or.inr (Or.inl h)
  · exact Or.inr (Or.inr (rf_ge_x ok.2.1 ok.rl h))
theorem rf_ot_ok {rc rl ps : Nat} {y i : Int32} (ok : rf_ok rc rl ps) (h : ¬ rf_ot rc rl y i) : ∃ a b, y = nI a ∧ i = nI b ∧ a < rc ∧ b < rl := by
  obtain ⟨a, ha, e1⟩ := rf_lt_n ok.rc (fun q => h (Or.inl q)) (fun q => h (Or.inr (Or.inl q)))
  obtain ⟨b, hb, e2⟩ := rf_lt_n ok.rl (fun q => h (Or.inr (Or.inr (Or.inl q)))) (fun q => h (Or.inr (Or.inr (Or.inr q))))
  exact ⟨a, b, e1, e2, ha, hb⟩
theorem rf_bd_x {rc rl ps : Nat} {y q : Int32} (ok : rf_ok rc rl ps) (h : rf_bd rc y q) : (y < 0 ∨ nI rc - 1 < y) ∨ (q < 0 ∨ 4 < q) := by
  rcases h with h | h | h | h
  · exact Or.inl (Or.inl h)
  · exact Or.inl (Or.inr (rf_ge_x ok.1 ok.rc h))
  · exact Or.inr (Or.inl h)
  · exact Or.inr (Or.inr h)
theorem rf_bd_ok {rc rl ps : Nat} {y q : Int32} (ok : rf_ok rc rl ps) (h : ¬ rf_bd rc y q) : ∃ a b, y = nI a ∧ q = nI b ∧ a < rc ∧ b ≤ 4 := by
  obtain ⟨a, ha, e1⟩ := rf_lt_n ok.rc (fun q => h (Or.inl q)) (fun q => h (Or.inr (Or.inl q)))
  obtain ⟨b, b1, b2, e2⟩ := rf_of (a := 0) (b := 4) (A := 0) (B := 4) (by decide) (by decide) (fun q => h (Or.inr (Or.inr (Or.inl q)))) (fun q => h (Or.inr (Or.inr (Or.inr q))))
  exact ⟨a, b, e1, e2, ha, b2⟩
theorem rf_un_ok {n : Int32} (h : ¬ (n < 0 ∨ 390624 < n)) : ∃ a, n = nI a ∧ a ≤ 390624 := by
  obtain ⟨b, b1, b2, e2⟩ := rf_of (a := 0) (b := 390624) (A := 0) (B := 390624) (by decide) (by decide) (fun q => h (Or.inl q)) (fun q => h (Or.inr q))
  exact ⟨b, e2, b2⟩
theorem rf_pw_ok {k w h : Int32} (hn : ¬ rf_pw k w h) : ∃ a b c, k = nI a ∧ w = nI b ∧ h = nI c ∧ a ≤ 6 ∧ 1 ≤ b ∧ b ≤ 100000 ∧ 1 ≤ c ∧ c ≤ 100000 := by
  obtain ⟨a, a1, a2, e1⟩ := rf_of (a := 0) (b := 6) (A := 0) (B := 6) (by decide) (by decide) (fun q => hn (Or.inl q)) (fun q => hn (Or.inr (Or.inl q)))
  obtain ⟨b, b1, b2, e2⟩ := rf_of (a := 1) (b := 100000) (A := 1) (B := 100000) (by decide) (by decide) (fun q => hn (Or.inr (Or.inr (Or.inl q)))) (fun q => hn (Or.inr (Or.inr (Or.inr (Or.inl q)))))
  obtain ⟨c, c1, c2, e3⟩ := rf_of (a := 1) (b := 100000) (A := 1) (B := 100000) (by decide) (by decide) (fun q => hn (Or.inr (Or.inr (Or.inr (Or.inr (Or.inl q)))))) (fun q => hn (Or.inr (Or.inr (Or.inr (Or.inr (Or.inr q))))))
  exact ⟨a, b, c, e1, e2, e3, a2, b1, b2, c1, c2⟩
theorem rf_xy_ok {x y : Int32} (hn : ¬ rf_xy x y) : ∃ a b, x = nI a ∧ y = nI b ∧ a ≤ 99999 ∧ b ≤ 99999 := by
  obtain ⟨a, a1, a2, e1⟩ := rf_of (a := 0) (b := 99999) (A := 0) (B := 99999) (by decide) (by decide) (fun q => hn (Or.inl q)) (fun q => hn (Or.inr (Or.inl q)))
  obtain ⟨b, b1, b2, e2⟩ := rf_of (a := 0) (b := 99999) (A := 0) (B := 99999) (by decide) (by decide) (fun q => hn (Or.inr (Or.inr (Or.inl q)))) (fun q => hn (Or.inr (Or.inr (Or.inr q))))
  exact ⟨a, b, e1, e2, a2, b2⟩
theorem rf_po_ex (x y : Nat) : ∃ k, rf_po x y k := by
  have key : ∀ d, d ≤ 6 → (∀ p, p < 6 - d → ¬ rf_at p x y) → ∃ k, rf_po x y k := by
    intro d
    induction d with
    | zero => intro _ h; exact ⟨6, Nat.le_refl 6, rf_tot h, h⟩
    | succ d ih =>
      intro hd h
      rcases Classical.em (rf_at (6 - (d + 1)) x y) with q | q
      · exact ⟨6 - (d + 1), by omega, q, h⟩
      · refine ih (by omega) (fun p hp => ?_)
        rcases Nat.lt_or_ge p (6 - (d + 1)) with z | z
        · exact h p z
        · rw [show p = 6 - (d + 1) by omega]; exact q
  exact key 6 (Nat.le_refl 6) (fun p hp => absurd hp (by omega))
def rf_R (N : Nat) (f g : Nat → Int32) : Prop := ∀ k, k < N → f k = g k ∧ g k &&& 255 = g k
theorem rf_R.e {N : Nat} {f g : Nat → Int32} (h : rf_R N f g) : ∀ k, k < N → f k = g k := fun k hk => (h k hk).1
theorem rf_R.m {N : Nat} {f g : Nat → Int32} (h : rf_R N f g) : ∀ k, k < N → g k &&& 255 = g k := fun k hk => (h k hk).2
theorem rf_R_open {f g : Nat → Int32} {a b : Nat} (h : a * b ≤ 4096) : rf_R (a * b) (rf_p f (fun _ => 0) 0 4096) (rf_p g (fun _ => 0) 0 (a * b)) := by
  intro k hk
  rw [rf_p_in (Nat.zero_le _) (by omega), rf_p_in (Nat.zero_le _) hk]
  exact ⟨rfl, by decide⟩
theorem rf_v255 : ∀ j, j < 256 → nI j &&& 255 = nI j := by decide +kernel
theorem rf_R_set {N K : Nat} {f g : Nat → Int32} {v : Int32} (h : rf_R N f g) (h1 : ¬ v < 0) (h2 : ¬ 255 < v) : rf_R N (upd f K v) (upd g K v) := by
  intro k hk
  unfold upd
  by_cases q : k = K
  · rw [if_pos q, if_pos q]
    obtain ⟨j, j1, j2, rfl⟩ := rf_of (a := 0) (b := 255) (A := 0) (B := 255) (by decide) (by decide) h1 h2
    exact ⟨rfl, rf_v255 j (by omega)⟩
  · rw [if_neg q, if_neg q]; exact h k hk
theorem rf_R_fill {N : Nat} {f g : Nat → Int32} (a b c : Int32) : rf_R N (rf_p f (rf_F a b c) 0 N) (rf_p g (rf_F a b c) 0 N) := by
  intro k hk
  rw [rf_p_in (Nat.zero_le _) hk, rf_p_in (Nat.zero_le _) hk]
  exact ⟨rfl, rf_F_m a b c k⟩
theorem rf_R_filter {rc rl ps y q : Nat} {f g : Nat → Int32} (hp : 1 ≤ ps) (hy : y < rc) (h : rf_R (rc * rl) f g) : rf_R (rc * rl) (rf_p f (rf_tv f rl ps y q) (y * rl) (y * rl + rl)) (rf_p g (rf_tv g rl ps y q) (y * rl) (y * rl + rl)) := by
  have hr := rf_row rl hy
  intro k hk
  by_cases z : y * rl ≤ k ∧ k < y * rl + rl
  · rw [rf_p_in z.1 z.2, rf_p_in z.1 z.2]
    unfold rf_tv
    rw [rf_t_c hp (by omega) (fun j hj => h.e j (by omega))]
    exact ⟨rfl, rf_m255 _⟩
  · rw [rf_p_out (by omega), rf_p_out (by omega)]; exact h k hk
theorem rf_R_plain {rc rl ps y q : Nat} {f g : Nat → Int32} (hp : 1 ≤ ps) (hy : y < rc) (h : rf_R (rc * rl) f g) : rf_R (rc * rl) (rf_U f rl ps y q rl) (rf_U g rl ps y q rl) :=
  fun k hk => ⟨rf_U_c hp (rf_row rl hy) h.e rl (Nat.le_refl _) k hk, rf_U_m h.m rl k hk⟩
theorem rf_R_best {rc rl ps : Nat} {f g : Nat → Int32} (hp : 1 ≤ ps) (h : rf_R (rc * rl) f g) : rf_R (rc * rl) (rf_p f (rf_bv f rl ps) 0 (rc * rl)) (rf_p g (rf_bv g rl ps) 0 (rc * rl)) := by
  intro k hk
  rw [rf_p_in (Nat.zero_le _) hk, rf_p_in (Nat.zero_le _) hk, rf_bv_c hp h.e k hk]
  exact ⟨rfl, rf_m255 _⟩
theorem rf_R_bv {rc rl ps : Nat} {f g : Nat → Int32} (hp : 1 ≤ ps) (h : rf_R (rc * rl) f g) : rf_v (fun y => rf_q f rl ps y) rc = rf_v (fun y => rf_q g rl ps y) rc :=
  rf_v_c (fun y hy => rf_q_c hp (fun k hk => h.e k (by have := rf_row rl hy; omega))) rc (Nat.le_refl _)
theorem rf_R_undo {rc rl ps n : Nat} {f g : Nat → Int32} (hp : 1 ≤ ps) (hn : n ≤ 390624) (h : rf_R (rc * rl) f g) : rf_R (rc * rl) (rf_D f rl ps n (min rc 8)) (rf_D g rl ps n rc) :=
  fun k hk => ⟨rf_undo hp (by omega) h.e h.m k hk, rf_D_m h.m rc k hk⟩
theorem rf_R_hash {N : Nat} {f g : Nat → Int32} (h : rf_R N f g) : rf_h f N = rf_h g N := rf_h_c h.e N (Nat.le_refl _)
theorem rf_16 (x : Int32) : ∃ q, q < 16 ∧ x &&& 15 = nI q := by
  have e : x = nI x.toBitVec.toNat := Int32.toBitVec_inj.1 (by
    show x.toBitVec = BitVec.ofNat 32 x.toBitVec.toNat
    simp)
  refine ⟨x.toBitVec.toNat % 16, Nat.mod_lt _ (by omega), ?_⟩
  have h : nI x.toBitVec.toNat &&& nI 15 = nI (x.toBitVec.toNat &&& 15) := by
    apply Int32.toBitVec_inj.1
    show BitVec.ofNat 32 _ &&& BitVec.ofNat 32 15 = BitVec.ofNat 32 _
    apply BitVec.eq_of_getLsbD_eq
    intro i hi
    simp [hi]
  rw [show (15 : Nat) = 2 ^ 4 - 1 from rfl, Nat.and_two_pow_sub_one_eq_mod] at h
  rw [← e] at h
  exact h
theorem rf_len {L n : Nat} (hL : L ≤ 2560) (hn : n ≤ 512) : (nI L - 5 < nI (5 * n)) ↔ L < 5 * n + 5 := by
  rw [Int32.lt_iff_toInt_lt, rf_tS (a := nI L) (b := 5) (by rw [nI_toInt (by omega)]; show -2147483648 ≤ (L : Int) - 5; omega) (by rw [nI_toInt (by omega)]; show (L : Int) - 5 < 2147483648; omega), nI_toInt (by omega), nI_toInt (by omega)]
  show (L : Int) - 5 < ((5 * n : Nat) : Int) ↔ _
  omega
theorem rf_cmp (a : Int64) : lg_cmp a a = 0 := by
  unfold lg_cmp
  simp
end
section
abbrev lw_W (h0 ab : Nat) (cI : ClassId) (h1 b1 b2 : Nat) (cJ cK : ClassId) (oa : Nat) (cL : ClassId) (rc rl ps : Nat) (f : Nat → Int32) (fl : Int32) (g t : Nat → Int32) (o : Nat → Int64) : va_W := [(h0, .inr (0, [.ref ab, .int (nI rc), .int (nI rl), .int (nI ps)])), (ab, .inl (cI, 4096, .inl f)), (h1, .inr (1, [.int fl, .int (nI rc), .int (nI rl), .int (nI ps), .ref b1, .ref b2])), (b1, .inl (cJ, 4096, .inl g)), (b2, .inl (cK, 4096, .inl t)), (oa, .inl (cL, 1, .inr (.inl o)))]
def lw_F (p : Program) (s : State) (m : MethodId) (c : Code) (A : Nat → Prop) (b L : Nat) (xs : Nat → Int32) (dC : Nat → ClassId) (dI : Nat → Nat → Nat) (cI cJ cK cL : ClassId) (sa t1 t2 t3 t4 : Nat) : Prop :=
  p.tables.exec = Jvm.exec ∧ c.code = cL_law ∧ c.maxLocals = 7 ∧ s.vm.findClass RL = some m.cls ∧ (∀ w ∈ wsL_law, w.before #[Value.ref b] s = true) ∧ (∀ w ∈ wsM, w.before #[Value.ref b] s = true) ∧ va_X b L xs s s.heap ∧ b < s.heap.size ∧ ¬ A b ∧ (∀ q, s.heap.size ≤ q → A q) ∧ (∀ q, A q → s.heap.size ≤ q) ∧ va_K (dC, dI) rw_cl [(cI, .int), (cJ, .int), (cK, .int), (cL, .long)] s ∧ rw_XA A sa s s.heap ∧ rw_stA A t1 t2 t3 t4 s s.heap ∧ L ≤ 2560
def lw_I (s : State) (A : Nat → Prop) (dC : Nat → ClassId) (dI : Nat → Nat → Nat) (b h0 ab : Nat) (cI : ClassId) (h1 b1 b2 : Nat) (cJ cK : ClassId) (oa : Nat) (cL : ClassId) (n : Nat) (ls : Array Slot) (H : Heap) (locs : List Loc) : Prop :=
  ∃ (rc rl ps : Nat) (f : Nat → Int32) (fl : Int32) (g t : Nat → Int32) (o : Nat → Int64), rf_ok rc rl ps ∧ rf_R (rc * rl) f g ∧ lv_has ls 7 [(0, .ref b), (1, .ref h0), (2, .ref h1), (3, .ref oa), (4, .int (nI (5 * n)))] ∧ va_P (dC, dI) rw_cl (lw_W h0 ab cI h1 b1 b2 cJ cK oa cL rc rl ps f fl g t o) H ∧ va_D A (lw_W h0 ab cI h1 b1 b2 cJ cK oa cL rc rl ps f fl g t o) ∧ va_S A s.heap H locs
end
section
set_option maxHeartbeats 8000000 in
set_option maxRecDepth 100000 in
theorem lw_case_open {p : Program} {l : Launch} {e : Env} {s : State} {m : MethodId} {below : List Frame} {meth : Method} {c : Code} {Q : State → Prop} {A : Nat → Prop} {b L : Nat} {xs : Nat → Int32} {dC : Nat → ClassId} {dI : Nat → Nat → Nat} {h0 ab : Nat} {cI : ClassId} {h1 b1 b2 : Nat} {cJ cK : ClassId} {oa : Nat} {cL : ClassId} {sa t1 t2 t3 t4 : Nat} (hl9 : l.stackTraces = false) (C9 : lw_F p s m c A b L xs dC dI cI cJ cK cL sa t1 t2 t3 t4) {n : Nat} (hn : n ≤ 512) (hL5 : 5 * n + 5 ≤ L) {rc rl ps : Nat} {f : Nat → Int32} {fl : Int32} {g t : Nat → Int32} {o : Nat → Int64} {ls : Array Slot} {H : Heap} {locs : List Loc} (ok : rf_ok rc rl ps) (hR : rf_R (rc * rl) f g) (hl : lv_has ls 7 [(0, .ref b), (1, .ref h0), (2, .ref h1), (3, .ref oa), (4, .int (nI (5 * n)))]) (hP : va_P (dC, dI) rw_cl (lw_W h0 ab cI h1 b1 b2 cJ cK oa cL rc rl ps f fl g t o) H) (hD : va_D A (lw_W h0 ab cI h1 b1 b2 cJ cK oa cL rc rl ps f fl g t o)) (hS : va_S A s.heap H locs) (ih : ∀ (ls : Array Slot) (H : Heap) (locs : List Loc), lw_I s A dC dI b h0 ab cI h1 b1 b2 cJ cK oa cL (n + 1) ls H locs → W p l e room_1 s m #[Value.ref b] below meth c H locs (6 + (n + 1)) (12299 + 6 * (n + 1)) Q (F0 m 23 ls [])) : W p l e room_1 s m #[Value.ref b] below meth c H locs (6 + n) (12299 + 6 * n) Q (F0 m 96 ls []) := by
  obtain ⟨hx, hb, hml, hown, hts, htsY, hXs, hbl, hbA, hA, hA2, hK, hX, hZ, hL⟩ := C9
  by_cases hc9 : ¬ rf_op (xs (5 * n + 1)) (xs (5 * n + 2)) (xs (5 * n + 3))
  · refine lv_aload_n hx hb dL_law_96 rfl (lv_at hl 1 rfl) ?_
    refine lv_aload_n hx hb dL_law_97 rfl (lv_at hl 0 rfl) ?_
    refine lv_iload hx hb dL_law_98 (lv_at hl 4 rfl) ?_
    refine lv_iconst (v := 1) hx hb dL_law_100 (by decide) ?_
    refine lv_iadd hx hb dL_law_101 ?_
    refine W.eq (g2 := F0 m 102 ls [.int (nI (5 * n + 1)), .ref b, .ref h0]) (congrArg (fun z9 => F0 m 102 ls [.int z9, .ref b, .ref h0]) (show ((nI (5 * n)) + 1) = nI (5 * n + 1) from nI_add (5 * n) 1)) ?_
    refine va_sld hx hb hXs hbl hbA hS (vp_in_nI (by omega) (by omega)) dL_law_102 ?_
    refine W.eq (g2 := F0 m 103 ls [.int (xs (5 * n + 1)), .ref h0]) (congrArg (fun z9 => F0 m 103 ls [.int z9, .ref h0]) (show (xs (nI (5 * n + 1)).toNatClampNeg) = (xs (5 * n + 1)) from (show xs (nI (5 * n + 1)).toNatClampNeg = (xs (5 * n + 1)) from by rw [nI_clamp (by omega)]))) ?_
    refine lv_aload_n hx hb dL_law_103 rfl (lv_at hl 0 rfl) ?_
    refine lv_iload hx hb dL_law_104 (lv_at hl 4 rfl) ?_
    refine lv_iconst (v := 2) hx hb dL_law_106 (by decide) ?_
    refine lv_iadd hx hb dL_law_107 ?_
    refine W.eq (g2 := F0 m 108 ls [.int (nI (5 * n + 2)), .ref b, .int (xs (5 * n + 1)), .ref h0]) (congrArg (fun z9 => F0 m 108 ls [.int z9, .ref b, .int (xs (5 * n + 1)), .ref h0]) (show ((nI (5 * n)) + 2) = nI (5 * n + 2) from nI_add (5 * n) 2)) ?_
    refine va_sld hx hb hXs hbl hbA hS (vp_in_nI (by omega) (by omega)) dL_law_108 ?_
    refine W.eq (g2 := F0 m 109 ls [.int (xs (5 * n + 2)), .int (xs (5 * n + 1)), .ref h0]) (congrArg (fun z9 => F0 m 109 ls [.int z9, .int (xs (5 * n + 1)), .ref h0]) (show (xs (nI (5 * n + 2)).toNatClampNeg) = (xs (5 * n + 2)) from (show xs (nI (5 * n + 2)).toNatClampNeg = (xs (5 * n + 2)) from by rw [nI_clamp (by omega)]))) ?_
    refine lv_aload_n hx hb dL_law_109 rfl (lv_at hl 0 rfl) ?_
    refine lv_iload hx hb dL_law_110 (lv_at hl 4 rfl) ?_
    refine lv_iconst (v := 3) hx hb dL_law_112 (by decide) ?_
    refine lv_iadd hx hb dL_law_113 ?_
    refine W.eq (g2 := F0 m 114 ls [.int (nI (5 * n + 3)), .ref b, .int (xs (5 * n + 2)), .int (xs (5 * n + 1)), .ref h0]) (congrArg (fun z9 => F0 m 114 ls [.int z9, .ref b, .int (xs (5 * n + 2)), .int (xs (5 * n + 1)), .ref h0]) (show ((nI (5 * n)) + 3) = nI (5 * n + 3) from nI_add (5 * n) 3)) ?_
    refine va_sld hx hb hXs hbl hbA hS (vp_in_nI (by omega) (by omega)) dL_law_114 ?_
    refine W.eq (g2 := F0 m 115 ls [.int (xs (5 * n + 3)), .int (xs (5 * n + 2)), .int (xs (5 * n + 1)), .ref h0]) (congrArg (fun z9 => F0 m 115 ls [.int z9, .int (xs (5 * n + 2)), .int (xs (5 * n + 1)), .ref h0]) (show (xs (nI (5 * n + 3)).toNatClampNeg) = (xs (5 * n + 3)) from (show xs (nI (5 * n + 3)).toNatClampNeg = (xs (5 * n + 3)) from by rw [nI_clamp (by omega)]))) ?_
    have hPc := hP.sub (ws' := [(h0, .inr (0, [.ref ab, .int (nI rc), .int (nI rl), .int (nI ps)])), (ab, .inl (cI, 4096, .inl f))]) [0, 1] rfl
    have hDc := hD.sub (ws' := [(h0, .inr (0, [.ref ab, .int (nI rc), .int (nI rl), .int (nI ps)])), (ab, .inl (cI, 4096, .inl f))]) [0, 1] (by decide) rfl
    have hKc := hK.sub (tys' := [(cI, .int)]) [0] rfl
    have hFc := va_free (wc := [(h0, .inr (0, [.ref ab, .int (nI rc), .int (nI rl), .int (nI ps)])), (ab, .inl (cI, 4096, .inl f))]) hD hS hA [0, 1] rfl
    refine va_calli (vx_runSW (As := [.ref h0, .int (xs (5 * n + 1)), .int (xs (5 * n + 2)), .int (xs (5 * n + 3))]) (rest := []) ⟨hx, hb, hml, hown, hts⟩ (c_L_open_bad l hl9 sa dC dI cI h0 ab rc rl ps f H.size (xs (5 * n + 1)) (xs (5 * n + 2)) (xs (5 * n + 3)) hc9) (vx_cwSW 4 hts gL_law_L_open rfl rfl rfl (by decide +kernel) ⟨Nat.le_of_ble_eq_true rfl, Nat.le_of_ble_eq_true rfl⟩) ⟨fun a U g mk q => by obtain ⟨q0, qX, q1, qP, qK, qD⟩ := q; exact ⟨q0, rw_XA.call qX, q1, qP, va_K.moved (u := U) (U := U.calling g mk a) (Vm.Alike.refl U.vm) qK, qD⟩, fun U hU hW => ⟨rfl, rw_XA.to hX hS (fun q z => hA q (Nat.le_trans hS.1 z)) hU hW, by rw [hU], by rw [hU]; exact hPc, va_K.moved hW.alike hKc, hDc.weaken (fun _ _ _ _ => trivial)⟩⟩ rfl rfl hl.1 rfl (lv_room (Nat.le_of_ble_eq_true rfl)) dL_law_115 ⟨by show 6 + n + 1 ≤ 1031; omega, by show 12299 + 6 * n + 6 ≤ 20497; omega⟩) hS (fun q _ h => hFc q h) hFc (fun k u t9 H1 locs ht hvm ek hB hz1 hk1 hS => ?_)
    obtain ⟨hP1, hK1, hD1⟩ := hB
    rw [ht] at hP1
    obtain ⟨hP, hD⟩ := va_join (wr := [(h1, .inr (1, [.int fl, .int (nI rc), .int (nI rl), .int (nI ps), .ref b1, .ref b2])), (b1, .inl (cJ, 4096, .inl g)), (b2, .inl (cK, 4096, .inl t)), (oa, .inl (cL, 1, .inr (.inl o)))]) (w1 := [(h0, .inr (0, [.ref ab, .int (nI rc), .int (nI rl), .int (nI ps)])), (ab, .inl (cI, 4096, .inl f))]) hP hD [0, 1] [2, 3, 4, 5] rfl rfl (by decide) (by decide) hk1 hFc hP1 hD1
    generalize H1 = H at hP hS ⊢
    have hP := hP.sub (ws' := [(h0, .inr (0, [.ref ab, .int (nI rc), .int (nI rl), .int (nI ps)])), (ab, .inl (cI, 4096, .inl f)), (h1, .inr (1, [.int fl, .int (nI rc), .int (nI rl), .int (nI ps), .ref b1, .ref b2])), (b1, .inl (cJ, 4096, .inl g)), (b2, .inl (cK, 4096, .inl t)), (oa, .inl (cL, 1, .inr (.inl o)))]) [4, 5, 0, 1, 2, 3] rfl
    have hD := hD.sub (ws' := [(h0, .inr (0, [.ref ab, .int (nI rc), .int (nI rl), .int (nI ps)])), (ab, .inl (cI, 4096, .inl f)), (h1, .inr (1, [.int fl, .int (nI rc), .int (nI rl), .int (nI ps), .ref b1, .ref b2])), (b1, .inl (cJ, 4096, .inl g)), (b2, .inl (cK, 4096, .inl t)), (oa, .inl (cL, 1, .inr (.inl o)))]) [4, 5, 0, 1, 2, 3] (by decide) rfl
    have hP : va_P (dC, dI) rw_cl [(h0, .inr (0, [.ref ab, .int (nI rc), .int (nI rl), .int (nI ps)])), (ab, .inl (cI, 4096, .inl f)), (h1, .inr (1, [.int fl, .int (nI rc), .int (nI rl), .int (nI ps), .ref b1, .ref b2])), (b1, .inl (cJ, 4096, .inl g)), (b2, .inl (cK, 4096, .inl t)), (oa, .inl (cL, 1, .inr (.inl o)))] H := hP
    have hD : va_D A [(h0, .inr (0, [.ref ab, .int (nI rc), .int (nI rl), .int (nI ps)])), (ab, .inl (cI, 4096, .inl f)), (h1, .inr (1, [.int fl, .int (nI rc), .int (nI rl), .int (nI ps), .ref b1, .ref b2])), (b1, .inl (cJ, 4096, .inl g)), (b2, .inl (cK, 4096, .inl t)), (oa, .inl (cL, 1, .inr (.inl o)))] := hD
    subst ek
    refine lv_istore hx hb dL_law_118 hl (by decide) rfl (fun ls hl => ?_)
    have hl : lv_has ls 7 [(5, .int 1), (0, .ref b), (1, .ref h0), (2, .ref h1), (3, .ref oa), (4, .int (nI (5 * n)))] := hl
    refine lv_aload_n hx hb dL_law_120 rfl (lv_at hl 3 rfl) ?_
    refine lv_aload_n hx hb dL_law_121 rfl (lv_at hl 1 rfl) ?_
    refine lv_iload hx hb dL_law_122 (lv_at hl 5 rfl) ?_
    refine lv_iconst (v := 1) hx hb dL_law_124 (by decide) ?_
    refine lv_iadd hx hb dL_law_125 ?_
    refine W.eq (g2 := F0 m 126 ls [.int (nI (5 * n + 1)), .ref b, .ref h1]) (congrArg (fun z9 => F0 m 126 ls [.int z9, .ref b, .ref h1]) (show ((nI (5 * n)) + 1) = nI (5 * n + 1) from nI_add (5 * n) 1)) ?_
    refine va_sld hx hb hXs hbl hbA hS (vp_in_nI (by omega) (by omega)) dL_law_126 ?_
    refine W.eq (g2 := F0 m 127 ls [.int (xs (5 * n + 1)), .ref h1]) (congrArg (fun z9 => F0 m 127 ls [.int z9, .ref h1]) (show (xs (nI (5 * n + 1)).toNatClampNeg) = (xs (5 * n + 1)) from (show xs (nI (5 * n + 1)).toNatClampNeg = (xs (5 * n + 1)) from by rw [nI_clamp (by omega)]))) ?_
    refine lv_aload_n hx hb dL_law_127 rfl (lv_at hl 1 rfl) ?_
    refine lv_iload hx hb dL_law_128 (lv_at hl 5 rfl) ?_
    refine lv_iconst (v := 2) hx hb dL_law_130 (by decide) ?_
    refine lv_iadd hx hb dL_law_131 ?_
    refine W.eq (g2 := F0 m 132 ls [.int (nI (5 * n + 2)), .ref b, .int (xs (5 * n + 1)), .ref h1]) (congrArg (fun z9 => F0 m 132 ls [.int z9, .ref b, .int (xs (5 * n + 1)), .ref h1]) (show ((nI (5 * n)) + 2) = nI (5 * n + 2) from nI_add (5 * n) 2)) ?_
    refine va_sld hx hb hXs hbl hbA hS (vp_in_nI (by omega) (by omega)) dL_law_132 ?_
    refine W.eq (g2 := F0 m 133 ls [.int (xs (5 * n + 2)), .int (xs (5 * n + 1)), .ref h1]) (congrArg (fun z9 => F0 m 133 ls [.int z9, .int (xs (5 * n + 1)), .ref h1]) (show (xs (nI (5 * n + 2)).toNatClampNeg) = (xs (5 * n + 2)) from (show xs (nI (5 * n + 2)).toNatClampNeg = (xs (5 * n + 2)) from by rw [nI_clamp (by omega)]))) ?_
    refine lv_aload_n hx hb dL_law_133 rfl (lv_at hl 1 rfl) ?_
    refine lv_iload hx hb dL_law_134 (lv_at hl 5 rfl) ?_
    refine lv_iconst (v := 3) hx hb dL_law_136 (by decide) ?_
    refine lv_iadd hx hb dL_law_137 ?_
    refine W.eq (g2 := F0 m 138 ls [.int (nI (5 * n + 3)), .ref b, .int (xs (5 * n + 2)), .int (xs (5 * n + 1)), .ref h1]) (congrArg (fun z9 => F0 m 138 ls [.int z9, .ref b, .int (xs (5 * n + 2)), .int (xs (5 * n + 1)), .ref h1]) (show ((nI (5 * n)) + 3) = nI (5 * n + 3) from nI_add (5 * n) 3)) ?_
    refine va_sld hx hb hXs hbl hbA hS (vp_in_nI (by omega) (by omega)) dL_law_138 ?_
    refine W.eq (g2 := F0 m 139 ls [.int (xs (5 * n + 3)), .int (xs (5 * n + 2)), .int (xs (5 * n + 1)), .ref h1]) (congrArg (fun z9 => F0 m 139 ls [.int z9, .int (xs (5 * n + 2)), .int (xs (5 * n + 1)), .ref h1]) (show (xs (nI (5 * n + 3)).toNatClampNeg) = (xs (5 * n + 3)) from (show xs (nI (5 * n + 3)).toNatClampNeg = (xs (5 * n + 3)) from by rw [nI_clamp (by omega)]))) ?_
    have hPc := hP.sub (ws' := [(h1, .inr (1, [.int fl, .int (nI rc), .int (nI rl), .int (nI ps), .ref b1, .ref b2])), (b1, .inl (cJ, 4096, .inl g)), (b2, .inl (cK, 4096, .inl t))]) [2, 3, 4] rfl
    have hDc := hD.sub (ws' := [(h1, .inr (1, [.int fl, .int (nI rc), .int (nI rl), .int (nI ps), .ref b1, .ref b2])), (b1, .inl (cJ, 4096, .inl g)), (b2, .inl (cK, 4096, .inl t))]) [2, 3, 4] (by decide) rfl
    have hKc := hK.sub (tys' := [(cJ, .int), (cK, .int)]) [1, 2] rfl
    have hFc := va_free (wc := [(h1, .inr (1, [.int fl, .int (nI rc), .int (nI rl), .int (nI ps), .ref b1, .ref b2])), (b1, .inl (cJ, 4096, .inl g)), (b2, .inl (cK, 4096, .inl t))]) hD hS hA [2, 3, 4] rfl
    refine va_callv (va_runV (C := RX1) (As := [.int (xs (5 * n + 1)), .int (xs (5 * n + 2)), .int (xs (5 * n + 3))]) (rest := []) ⟨hx, hb, hml, hown, htsY⟩ (c_Y1_open_bad l dC dI cJ cK h1 b1 b2 fl rc rl ps g t H.size (xs (5 * n + 1)) (xs (5 * n + 2)) (xs (5 * n + 3)) hc9) (cwV 3 htsY gL_law_Y1_open rfl rfl rfl (by decide +kernel) ⟨Nat.le_of_ble_eq_true rfl, Nat.le_of_ble_eq_true rfl⟩) ⟨fun a U g mk q => by obtain ⟨q0, q1, qP, qK, qD⟩ := q; exact ⟨q0, q1, qP, va_K.moved (u := U) (U := U.calling g mk a) (Vm.Alike.refl U.vm) qK, qD⟩, va_recv hK hP (ci := 1) (q0 := 2) rfl rfl, fun U hU hW => ⟨rfl, by rw [hU], by rw [hU]; exact hPc, va_K.moved hW.alike hKc, hDc.weaken (fun _ _ _ _ => trivial)⟩⟩ rfl rfl hl.1 rfl (lv_room (Nat.le_of_ble_eq_true rfl)) dL_law_139 ⟨by show 6 + n + 1 + 0 ≤ 1031; omega, by show 12299 + 6 * n + 6 + 0 ≤ 20497; omega⟩) hS (fun q _ h => hFc q h) hFc (fun u t9 H1 locs ht hvm hw hB hz1 hk1 hS => ?_)
    obtain ⟨hP1, hK1, hD1⟩ := hB
    rw [ht] at hP1
    obtain ⟨hP, hD⟩ := va_join (wr := [(h0, .inr (0, [.ref ab, .int (nI rc), .int (nI rl), .int (nI ps)])), (ab, .inl (cI, 4096, .inl f)), (oa, .inl (cL, 1, .inr (.inl o)))]) (w1 := [(h1, .inr (1, [.int 1, .int (nI rc), .int (nI rl), .int (nI ps), .ref b1, .ref b2])), (b1, .inl (cJ, 4096, .inl g)), (b2, .inl (cK, 4096, .inl t))]) hP hD [2, 3, 4] [0, 1, 5] rfl rfl (by decide) (by decide) hk1 hFc hP1 hD1
    generalize H1 = H at hP hS ⊢
    have hP := hP.sub (ws' := [(h0, .inr (0, [.ref ab, .int (nI rc), .int (nI rl), .int (nI ps)])), (ab, .inl (cI, 4096, .inl f)), (h1, .inr (1, [.int 1, .int (nI rc), .int (nI rl), .int (nI ps), .ref b1, .ref b2])), (b1, .inl (cJ, 4096, .inl g)), (b2, .inl (cK, 4096, .inl t)), (oa, .inl (cL, 1, .inr (.inl o)))]) [0, 1, 3, 4, 5, 2] rfl
    have hD := hD.sub (ws' := [(h0, .inr (0, [.ref ab, .int (nI rc), .int (nI rl), .int (nI ps)])), (ab, .inl (cI, 4096, .inl f)), (h1, .inr (1, [.int 1, .int (nI rc), .int (nI rl), .int (nI ps), .ref b1, .ref b2])), (b1, .inl (cJ, 4096, .inl g)), (b2, .inl (cK, 4096, .inl t)), (oa, .inl (cL, 1, .inr (.inl o)))]) [0, 1, 3, 4, 5, 2] (by decide) rfl
    have hP : va_P (dC, dI) rw_cl [(h0, .inr (0, [.ref ab, .int (nI rc), .int (nI rl), .int (nI ps)])), (ab, .inl (cI, 4096, .inl f)), (h1, .inr (1, [.int 1, .int (nI rc), .int (nI rl), .int (nI ps), .ref b1, .ref b2])), (b1, .inl (cJ, 4096, .inl g)), (b2, .inl (cK, 4096, .inl t)), (oa, .inl (cL, 1, .inr (.inl o)))] H := hP
    have hD : va_D A [(h0, .inr (0, [.ref ab, .int (nI rc), .int (nI rl), .int (nI ps)])), (ab, .inl (cI, 4096, .inl f)), (h1, .inr (1, [.int 1, .int (nI rc), .int (nI rl), .int (nI ps), .ref b1, .ref b2])), (b1, .inl (cJ, 4096, .inl g)), (b2, .inl (cK, 4096, .inl t)), (oa, .inl (cL, 1, .inr (.inl o)))] := hD
    refine W.widen (k := 6 + n + 1) (n := 12299 + 6 * n + 6) (Nat.le_refl _) (Nat.le_refl _) ?_
    refine lv_aload_n hx hb dL_law_142 rfl (lv_at hl 3 rfl) ?_
    have hPc := hP.sub (ws' := [(h1, .inr (1, [.int 1, .int (nI rc), .int (nI rl), .int (nI ps), .ref b1, .ref b2])), (b1, .inl (cJ, 4096, .inl g)), (b2, .inl (cK, 4096, .inl t))]) [2, 3, 4] rfl
    have hKc := hK.sub (tys' := [(cJ, .int), (cK, .int)]) [1, 2] rfl
    refine vp_callSi (W.runV (C := RX1) (As := []) (rest := []) ⟨hx, hb, hml, hown, htsY⟩ (c_Y1_thrown l dC dI cJ cK h1 b1 b2 1 rc rl ps g t ) (cwV 0 htsY gL_law_Y1_thrown rfl rfl rfl (by decide +kernel) ⟨Nat.le_of_ble_eq_true rfl, Nat.le_of_ble_eq_true rfl⟩) ⟨fun a U g mk q => by obtain ⟨q0, qP, qK⟩ := q; exact ⟨q0, qP, va_K.moved (u := U) (U := U.calling g mk a) (Vm.Alike.refl U.vm) qK⟩, va_recv hK hP (ci := 1) (q0 := 2) rfl rfl, fun U hU hW => ⟨rfl, by rw [hU]; exact hPc, va_K.moved hW.alike hKc⟩⟩ rfl rfl hl.1 rfl (lv_room (Nat.le_of_ble_eq_true rfl)) dL_law_143 ⟨by show 6 + n + 1 + 0 ≤ 1031; omega, by show 12299 + 6 * n + 6 + 0 ≤ 20497; omega⟩) (fun rt et => ?_)
    subst et
    refine lv_iload hx hb dL_law_146 (lv_at hl 0 rfl) ?_
    refine lv_icmp_eq (tgt := 153) hx hb dL_law_148 (by decide) (fun hq => ?_) (fun hq => ?_)
    · refine lv_goto (tgt := 685) hx hb dL_law_153 (by decide) ?_
      refine lv_iinc (k := 5) (v := (nI (5 * (n + 1)))) hx hb dL_law_685 hl rfl (show nI (5 * n) + nI 5 = nI (5 * (n + 1)) from (nI_add _ _).trans (congrArg nI (by omega))) (by decide) rfl (fun ls hl => ?_)
      have hl : lv_has ls 7 [(4, .int (nI (5 * (n + 1)))), (5, .int 1), (0, .ref b), (1, .ref h0), (2, .ref h1), (3, .ref oa)] := hl
      refine lv_goto (tgt := 23) hx hb dL_law_688 (by decide) ?_
      refine W.widen (k := 6 + (n + 1)) (n := 12299 + 6 * (n + 1)) (by omega) (by omega) ?_
      exact ih _ _ _ ⟨rc, rl, ps, f, 1, g, t, o, ok, hR, lv_sub hl [2, 3, 4, 5, 0] rfl, hP, hD, hS⟩
    · exact absurd (rfl : (1 : Int32) = 1) hq
  · obtain ⟨h, n9, z, e1, e2, e3, ok9⟩ := rf_op_ok (Classical.not_not.mp hc9)
    refine lv_aload_n hx hb dL_law_96 rfl (lv_at hl 1 rfl) ?_
    refine lv_aload_n hx hb dL_law_97 rfl (lv_at hl 0 rfl) ?_
    refine lv_iload hx hb dL_law_98 (lv_at hl 4 rfl) ?_
    refine lv_iconst (v := 1) hx hb dL_law_100 (by decide) ?_
    refine lv_iadd hx hb dL_law_101 ?_
    refine W.eq (g2 := F0 m 102 ls [.int (nI (5 * n + 1)), .ref b, .ref h0]) (congrArg (fun z9 => F0 m 102 ls [.int z9, .ref b, .ref h0]) (show ((nI (5 * n)) + 1) = nI (5 * n + 1) from nI_add (5 * n) 1)) ?_
    refine va_sld hx hb hXs hbl hbA hS (vp_in_nI (by omega) (by omega)) dL_law_102 ?_
    refine W.eq (g2 := F0 m 103 ls [.int (nI h), .ref h0]) (congrArg (fun z9 => F0 m 103 ls [.int z9, .ref h0]) (show (xs (nI (5 * n + 1)).toNatClampNeg) = (nI h) from (show xs (nI (5 * n + 1)).toNatClampNeg = (nI h) from by rw [nI_clamp (by omega)]; exact e1))) ?_
    refine lv_aload_n hx hb dL_law_103 rfl (lv_at hl 0 rfl) ?_
    refine lv_iload hx hb dL_law_104 (lv_at hl 4 rfl) ?_
    refine lv_iconst (v := 2) hx hb dL_law_106 (by decide) ?_
    refine lv_iadd hx hb dL_law_107 ?_
    refine W.eq (g2 := F0 m 108 ls [.int (nI (5 * n + 2)), .ref b, .int (nI h), .ref h0]) (congrArg (fun z9 => F0 m 108 ls [.int z9, .ref b, .int (nI h), .ref h0]) (show ((nI (5 * n)) + 2) = nI (5 * n + 2) from nI_add (5 * n) 2)) ?_
    refine va_sld hx hb hXs hbl hbA hS (vp_in_nI (by omega) (by omega)) dL_law_108 ?_
    refine W.eq (g2 := F0 m 109 ls [.int (nI n9), .int (nI h), .ref h0]) (congrArg (fun z9 => F0 m 109 ls [.int z9, .int (nI h), .ref h0]) (show (xs (nI (5 * n + 2)).toNatClampNeg) = (nI n9) from (show xs (nI (5 * n + 2)).toNatClampNeg = (nI n9) from by rw [nI_clamp (by omega)]; exact e2))) ?_
    refine lv_aload_n hx hb dL_law_109 rfl (lv_at hl 0 rfl) ?_
    refine lv_iload hx hb dL_law_110 (lv_at hl 4 rfl) ?_
    refine lv_iconst (v := 3) hx hb dL_law_112 (by decide) ?_
    refine lv_iadd hx hb dL_law_113 ?_
    refine W.eq (g2 := F0 m 114 ls [.int (nI (5 * n + 3)), .ref b, .int (nI n9), .int (nI h), .ref h0]) (congrArg (fun z9 => F0 m 114 ls [.int z9, .ref b, .int (nI n9), .int (nI h), .ref h0]) (show ((nI (5 * n)) + 3) = nI (5 * n + 3) from nI_add (5 * n) 3)) ?_
    refine va_sld hx hb hXs hbl hbA hS (vp_in_nI (by omega) (by omega)) dL_law_114 ?_
    refine W.eq (g2 := F0 m 115 ls [.int (nI z), .int (nI n9), .int (nI h), .ref h0]) (congrArg (fun z9 => F0 m 115 ls [.int z9, .int (nI n9), .int (nI h), .ref h0]) (show (xs (nI (5 * n + 3)).toNatClampNeg) = (nI z) from (show xs (nI (5 * n + 3)).toNatClampNeg = (nI z) from by rw [nI_clamp (by omega)]; exact e3))) ?_
    have hPc := hP.sub (ws' := [(h0, .inr (0, [.ref ab, .int (nI rc), .int (nI rl), .int (nI ps)])), (ab, .inl (cI, 4096, .inl f))]) [0, 1] rfl
    have hDc := hD.sub (ws' := [(h0, .inr (0, [.ref ab, .int (nI rc), .int (nI rl), .int (nI ps)])), (ab, .inl (cI, 4096, .inl f))]) [0, 1] (by decide) rfl
    have hKc := hK.sub (tys' := [(cI, .int)]) [0] rfl
    have hFc := va_free (wc := [(h0, .inr (0, [.ref ab, .int (nI rc), .int (nI rl), .int (nI ps)])), (ab, .inl (cI, 4096, .inl f))]) hD hS hA [0, 1] rfl
    refine va_calli (vx_runSW (As := [.ref h0, .int (nI h), .int (nI n9), .int (nI z)]) (rest := []) ⟨hx, hb, hml, hown, hts⟩ (c_L_open l dC dI cI h0 ab rc rl ps f H.size h n9 z ok9) (vx_cwSW 4 hts gL_law_L_open rfl rfl rfl (by decide +kernel) ⟨Nat.le_of_ble_eq_true rfl, Nat.le_of_ble_eq_true rfl⟩) ⟨fun a U g mk q => by obtain ⟨q0, q1, qP, qK, qD⟩ := q; exact ⟨q0, q1, qP, va_K.moved (u := U) (U := U.calling g mk a) (Vm.Alike.refl U.vm) qK, qD⟩, fun U hU hW => ⟨rfl, by rw [hU], by rw [hU]; exact hPc, va_K.moved hW.alike hKc, hDc.weaken (fun _ _ _ _ => trivial)⟩⟩ rfl rfl hl.1 rfl (lv_room (Nat.le_of_ble_eq_true rfl)) dL_law_115 ⟨by show 6 + n + 0 ≤ 1031; omega, by show 12299 + 6 * n + 0 ≤ 20497; omega⟩) hS (fun q _ h => hFc q h) hFc (fun k u t9 H1 locs ht hvm ek hB hz1 hk1 hS => ?_)
    obtain ⟨hP1, hK1, hD1⟩ := hB
    rw [ht] at hP1
    obtain ⟨hP, hD⟩ := va_join (wr := [(h1, .inr (1, [.int fl, .int (nI rc), .int (nI rl), .int (nI ps), .ref b1, .ref b2])), (b1, .inl (cJ, 4096, .inl g)), (b2, .inl (cK, 4096, .inl t)), (oa, .inl (cL, 1, .inr (.inl o)))]) (w1 := [(h0, .inr (0, [.ref ab, .int (nI h), .int (nI n9), .int (nI z)])), (ab, .inl (cI, 4096, .inl (rf_p f (fun _ => 0) 0 4096)))]) hP hD [0, 1] [2, 3, 4, 5] rfl rfl (by decide) (by decide) hk1 hFc hP1 hD1
    generalize H1 = H at hP hS ⊢
    have hP := hP.sub (ws' := [(h0, .inr (0, [.ref ab, .int (nI h), .int (nI n9), .int (nI z)])), (ab, .inl (cI, 4096, .inl (rf_p f (fun _ => 0) 0 4096))), (h1, .inr (1, [.int fl, .int (nI rc), .int (nI rl), .int (nI ps), .ref b1, .ref b2])), (b1, .inl (cJ, 4096, .inl g)), (b2, .inl (cK, 4096, .inl t)), (oa, .inl (cL, 1, .inr (.inl o)))]) [4, 5, 0, 1, 2, 3] rfl
    have hD := hD.sub (ws' := [(h0, .inr (0, [.ref ab, .int (nI h), .int (nI n9), .int (nI z)])), (ab, .inl (cI, 4096, .inl (rf_p f (fun _ => 0) 0 4096))), (h1, .inr (1, [.int fl, .int (nI rc), .int (nI rl), .int (nI ps), .ref b1, .ref b2])), (b1, .inl (cJ, 4096, .inl g)), (b2, .inl (cK, 4096, .inl t)), (oa, .inl (cL, 1, .inr (.inl o)))]) [4, 5, 0, 1, 2, 3] (by decide) rfl
    have hP : va_P (dC, dI) rw_cl [(h0, .inr (0, [.ref ab, .int (nI h), .int (nI n9), .int (nI z)])), (ab, .inl (cI, 4096, .inl (rf_p f (fun _ => 0) 0 4096))), (h1, .inr (1, [.int fl, .int (nI rc), .int (nI rl), .int (nI ps), .ref b1, .ref b2])), (b1, .inl (cJ, 4096, .inl g)), (b2, .inl (cK, 4096, .inl t)), (oa, .inl (cL, 1, .inr (.inl o)))] H := hP
    have hD : va_D A [(h0, .inr (0, [.ref ab, .int (nI h), .int (nI n9), .int (nI z)])), (ab, .inl (cI, 4096, .inl (rf_p f (fun _ => 0) 0 4096))), (h1, .inr (1, [.int fl, .int (nI rc), .int (nI rl), .int (nI ps), .ref b1, .ref b2])), (b1, .inl (cJ, 4096, .inl g)), (b2, .inl (cK, 4096, .inl t)), (oa, .inl (cL, 1, .inr (.inl o)))] := hD
    refine W.widen (k := 6 + n) (n := 12299 + 6 * n) (Nat.le_refl _) (Nat.le_refl _) ?_
    subst ek
    refine lv_istore hx hb dL_law_118 hl (by decide) rfl (fun ls hl => ?_)
    have hl : lv_has ls 7 [(5, .int 0), (0, .ref b), (1, .ref h0), (2, .ref h1), (3, .ref oa), (4, .int (nI (5 * n)))] := hl
    refine lv_aload_n hx hb dL_law_120 rfl (lv_at hl 3 rfl) ?_
    refine lv_aload_n hx hb dL_law_121 rfl (lv_at hl 1 rfl) ?_
    refine lv_iload hx hb dL_law_122 (lv_at hl 5 rfl) ?_
    refine lv_iconst (v := 1) hx hb dL_law_124 (by decide) ?_
    refine lv_iadd hx hb dL_law_125 ?_
    refine W.eq (g2 := F0 m 126 ls [.int (nI (5 * n + 1)), .ref b, .ref h1]) (congrArg (fun z9 => F0 m 126 ls [.int z9, .ref b, .ref h1]) (show ((nI (5 * n)) + 1) = nI (5 * n + 1) from nI_add (5 * n) 1)) ?_
    refine va_sld hx hb hXs hbl hbA hS (vp_in_nI (by omega) (by omega)) dL_law_126 ?_
    refine W.eq (g2 := F0 m 127 ls [.int (nI h), .ref h1]) (congrArg (fun z9 => F0 m 127 ls [.int z9, .ref h1]) (show (xs (nI (5 * n + 1)).toNatClampNeg) = (nI h) from (show xs (nI (5 * n + 1)).toNatClampNeg = (nI h) from by rw [nI_clamp (by omega)]; exact e1))) ?_
    refine lv_aload_n hx hb dL_law_127 rfl (lv_at hl 1 rfl) ?_
    refine lv_iload hx hb dL_law_128 (lv_at hl 5 rfl) ?_
    refine lv_iconst (v := 2) hx hb dL_law_130 (by decide) ?_
    refine lv_iadd hx hb dL_law_131 ?_
    refine W.eq (g2 := F0 m 132 ls [.int (nI (5 * n + 2)), .ref b, .int (nI h), .ref h1]) (congrArg (fun z9 => F0 m 132 ls [.int z9, .ref b, .int (nI h), .ref h1]) (show ((nI (5 * n)) + 2) = nI (5 * n + 2) from nI_add (5 * n) 2)) ?_
    refine va_sld hx hb hXs hbl hbA hS (vp_in_nI (by omega) (by omega)) dL_law_132 ?_
    refine W.eq (g2 := F0 m 133 ls [.int (nI n9), .int (nI h), .ref h1]) (congrArg (fun z9 => F0 m 133 ls [.int z9, .int (nI h), .ref h1]) (show (xs (nI (5 * n + 2)).toNatClampNeg) = (nI n9) from (show xs (nI (5 * n + 2)).toNatClampNeg = (nI n9) from by rw [nI_clamp (by omega)]; exact e2))) ?_
    refine lv_aload_n hx hb dL_law_133 rfl (lv_at hl 1 rfl) ?_
    refine lv_iload hx hb dL_law_134 (lv_at hl 5 rfl) ?_
    refine lv_iconst (v := 3) hx hb dL_law_136 (by decide) ?_
    refine lv_iadd hx hb dL_law_137 ?_
    refine W.eq (g2 := F0 m 138 ls [.int (nI (5 * n + 3)), .ref b, .int (nI n9), .int (nI h), .ref h1]) (congrArg (fun z9 => F0 m 138 ls [.int z9, .ref b, .int (nI n9), .int (nI h), .ref h1]) (show ((nI (5 * n)) + 3) = nI (5 * n + 3) from nI_add (5 * n) 3)) ?_
    refine va_sld hx hb hXs hbl hbA hS (vp_in_nI (by omega) (by omega)) dL_law_138 ?_
    refine W.eq (g2 := F0 m 139 ls [.int (nI z), .int (nI n9), .int (nI h), .ref h1]) (congrArg (fun z9 => F0 m 139 ls [.int z9, .int (nI n9), .int (nI h), .ref h1]) (show (xs (nI (5 * n + 3)).toNatClampNeg) = (nI z) from (show xs (nI (5 * n + 3)).toNatClampNeg = (nI z) from by rw [nI_clamp (by omega)]; exact e3))) ?_
    have hPc := hP.sub (ws' := [(h1, .inr (1, [.int fl, .int (nI rc), .int (nI rl), .int (nI ps), .ref b1, .ref b2])), (b1, .inl (cJ, 4096, .inl g)), (b2, .inl (cK, 4096, .inl t))]) [2, 3, 4] rfl
    have hDc := hD.sub (ws' := [(h1, .inr (1, [.int fl, .int (nI rc), .int (nI rl), .int (nI ps), .ref b1, .ref b2])), (b1, .inl (cJ, 4096, .inl g)), (b2, .inl (cK, 4096, .inl t))]) [2, 3, 4] (by decide) rfl
    have hKc := hK.sub (tys' := [(cJ, .int), (cK, .int)]) [1, 2] rfl
    have hFc := va_free (wc := [(h1, .inr (1, [.int fl, .int (nI rc), .int (nI rl), .int (nI ps), .ref b1, .ref b2])), (b1, .inl (cJ, 4096, .inl g)), (b2, .inl (cK, 4096, .inl t))]) hD hS hA [2, 3, 4] rfl
    refine va_callv (va_runV (C := RX1) (As := [.int (nI h), .int (nI n9), .int (nI z)]) (rest := []) ⟨hx, hb, hml, hown, htsY⟩ (c_Y1_open l dC dI cJ cK h1 b1 b2 fl rc rl ps g t H.size h n9 z ok9) (cwV 3 htsY gL_law_Y1_open rfl rfl rfl (by decide +kernel) ⟨Nat.le_of_ble_eq_true rfl, Nat.le_of_ble_eq_true rfl⟩) ⟨fun a U g mk q => by obtain ⟨q0, q1, qP, qK, qD⟩ := q; exact ⟨q0, q1, qP, va_K.moved (u := U) (U := U.calling g mk a) (Vm.Alike.refl U.vm) qK, qD⟩, va_recv hK hP (ci := 1) (q0 := 2) rfl rfl, fun U hU hW => ⟨rfl, by rw [hU], by rw [hU]; exact hPc, va_K.moved hW.alike hKc, hDc.weaken (fun _ _ _ _ => trivial)⟩⟩ rfl rfl hl.1 rfl (lv_room (Nat.le_of_ble_eq_true rfl)) dL_law_139 ⟨by show 6 + n + 0 ≤ 1031; omega, by show 12299 + 6 * n + 0 ≤ 20497; omega⟩) hS (fun q _ h => hFc q h) hFc (fun u t9 H1 locs ht hvm hw hB hz1 hk1 hS => ?_)
    obtain ⟨hP1, hK1, hD1⟩ := hB
    rw [ht] at hP1
    obtain ⟨hP, hD⟩ := va_join (wr := [(h0, .inr (0, [.ref ab, .int (nI h), .int (nI n9), .int (nI z)])), (ab, .inl (cI, 4096, .inl (rf_p f (fun _ => 0) 0 4096))), (oa, .inl (cL, 1, .inr (.inl o)))]) (w1 := [(h1, .inr (1, [.int 0, .int (nI h), .int (nI n9), .int (nI z), .ref b1, .ref b2])), (b1, .inl (cJ, 4096, .inl (rf_p g (fun _ => 0) 0 (h * n9)))), (b2, .inl (cK, 4096, .inl t))]) hP hD [2, 3, 4] [0, 1, 5] rfl rfl (by decide) (by decide) hk1 hFc hP1 hD1
    generalize H1 = H at hP hS ⊢
    have hP := hP.sub (ws' := [(h0, .inr (0, [.ref ab, .int (nI h), .int (nI n9), .int (nI z)])), (ab, .inl (cI, 4096, .inl (rf_p f (fun _ => 0) 0 4096))), (h1, .inr (1, [.int 0, .int (nI h), .int (nI n9), .int (nI z), .ref b1, .ref b2])), (b1, .inl (cJ, 4096, .inl (rf_p g (fun _ => 0) 0 (h * n9)))), (b2, .inl (cK, 4096, .inl t)), (oa, .inl (cL, 1, .inr (.inl o)))]) [0, 1, 3, 4, 5, 2] rfl
    have hD := hD.sub (ws' := [(h0, .inr (0, [.ref ab, .int (nI h), .int (nI n9), .int (nI z)])), (ab, .inl (cI, 4096, .inl (rf_p f (fun _ => 0) 0 4096))), (h1, .inr (1, [.int 0, .int (nI h), .int (nI n9), .int (nI z), .ref b1, .ref b2])), (b1, .inl (cJ, 4096, .inl (rf_p g (fun _ => 0) 0 (h * n9)))), (b2, .inl (cK, 4096, .inl t)), (oa, .inl (cL, 1, .inr (.inl o)))]) [0, 1, 3, 4, 5, 2] (by decide) rfl
    have hP : va_P (dC, dI) rw_cl [(h0, .inr (0, [.ref ab, .int (nI h), .int (nI n9), .int (nI z)])), (ab, .inl (cI, 4096, .inl (rf_p f (fun _ => 0) 0 4096))), (h1, .inr (1, [.int 0, .int (nI h), .int (nI n9), .int (nI z), .ref b1, .ref b2])), (b1, .inl (cJ, 4096, .inl (rf_p g (fun _ => 0) 0 (h * n9)))), (b2, .inl (cK, 4096, .inl t)), (oa, .inl (cL, 1, .inr (.inl o)))] H := hP
    have hD : va_D A [(h0, .inr (0, [.ref ab, .int (nI h), .int (nI n9), .int (nI z)])), (ab, .inl (cI, 4096, .inl (rf_p f (fun _ => 0) 0 4096))), (h1, .inr (1, [.int 0, .int (nI h), .int (nI n9), .int (nI z), .ref b1, .ref b2])), (b1, .inl (cJ, 4096, .inl (rf_p g (fun _ => 0) 0 (h * n9)))), (b2, .inl (cK, 4096, .inl t)), (oa, .inl (cL, 1, .inr (.inl o)))] := hD
    refine W.widen (k := 6 + n) (n := 12299 + 6 * n) (Nat.le_refl _) (Nat.le_refl _) ?_
    refine lv_aload_n hx hb dL_law_142 rfl (lv_at hl 3 rfl) ?_
    have hPc := hP.sub (ws' := [(h1, .inr (1, [.int 0, .int (nI h), .int (nI n9), .int (nI z), .ref b1, .ref b2])), (b1, .inl (cJ, 4096, .inl (rf_p g (fun _ => 0) 0 (h * n9)))), (b2, .inl (cK, 4096, .inl t))]) [2, 3, 4] rfl
    have hKc := hK.sub (tys' := [(cJ, .int), (cK, .int)]) [1, 2] rfl
    refine vp_callSi (W.runV (C := RX1) (As := []) (rest := []) ⟨hx, hb, hml, hown, htsY⟩ (c_Y1_thrown l dC dI cJ cK h1 b1 b2 0 h n9 z (rf_p g (fun _ => 0) 0 (h * n9)) t ) (cwV 0 htsY gL_law_Y1_thrown rfl rfl rfl (by decide +kernel) ⟨Nat.le_of_ble_eq_true rfl, Nat.le_of_ble_eq_true rfl⟩) ⟨fun a U g mk q => by obtain ⟨q0, qP, qK⟩ := q; exact ⟨q0, qP, va_K.moved (u := U) (U := U.calling g mk a) (Vm.Alike.refl U.vm) qK⟩, va_recv hK hP (ci := 1) (q0 := 2) rfl rfl, fun U hU hW => ⟨rfl, by rw [hU]; exact hPc, va_K.moved hW.alike hKc⟩⟩ rfl rfl hl.1 rfl (lv_room (Nat.le_of_ble_eq_true rfl)) dL_law_143 ⟨by show 6 + n + 0 ≤ 1031; omega, by show 12299 + 6 * n + 0 ≤ 20497; omega⟩) (fun rt et => ?_)
    subst et
    refine lv_iload hx hb dL_law_146 (lv_at hl 0 rfl) ?_
    refine lv_icmp_eq (tgt := 153) hx hb dL_law_148 (by decide) (fun hq => ?_) (fun hq => ?_)
    · refine lv_goto (tgt := 685) hx hb dL_law_153 (by decide) ?_
      refine lv_iinc (k := 5) (v := (nI (5 * (n + 1)))) hx hb dL_law_685 hl rfl (show nI (5 * n) + nI 5 = nI (5 * (n + 1)) from (nI_add _ _).trans (congrArg nI (by omega))) (by decide) rfl (fun ls hl => ?_)
      have hl : lv_has ls 7 [(4, .int (nI (5 * (n + 1)))), (5, .int 0), (0, .ref b), (1, .ref h0), (2, .ref h1), (3, .ref oa)] := hl
      refine lv_goto (tgt := 23) hx hb dL_law_688 (by decide) ?_
      refine W.widen (k := 6 + (n + 1)) (n := 12299 + 6 * (n + 1)) (by omega) (by omega) ?_
      exact ih _ _ _ ⟨h, n9, z, (rf_p f (fun _ => 0) 0 4096), 0, (rf_p g (fun _ => 0) 0 (h * n9)), t, o, ok9, (rf_R_open ok9.2.2.1), lv_sub hl [2, 3, 4, 5, 0] rfl, hP, hD, hS⟩
    · exact absurd (rfl : (0 : Int32) = 0) hq
end
