theorem nmX5 : ∀ a, a < 30 → ∀ b, b < 30 → a ≠ b → (TX5 a).2.1 ≠ (TX5 b).2.1 := by decide +kernel
theorem tyX5_ok : ∀ k, k < 30 → parseFieldDescriptor (TX5 k).2.2.1 = some (tyX5 k) := by decide +kernel
abbrev cX5_within : ByteArray := prog_7_method_3_code
def yX5_within : MethodName := ⟨RX5, "within", "(III)Z"⟩
abbrev cX5_isValue : ByteArray := prog_7_method_4_code
def yX5_isValue : MethodName := ⟨RX5, "isValue", "(I)Z"⟩
abbrev cX5_isPlace : ByteArray := prog_7_method_5_code
def yX5_isPlace : MethodName := ⟨RX5, "isPlace", "(I)Z"⟩
abbrev cX5_isRange : ByteArray := prog_7_method_6_code
def yX5_isRange : MethodName := ⟨RX5, "isRange", "(II)Z"⟩
abbrev cX5_isShare : ByteArray := prog_7_method_7_code
def yX5_isShare : MethodName := ⟨RX5, "isShare", "(II)Z"⟩
abbrev cX5_feed : ByteArray := prog_7_method_20_code
def yX5_feed : MethodName := ⟨RX5, "feed", "(II)I"⟩
abbrev cX5_end : ByteArray := prog_7_method_21_code
def yX5_end : MethodName := ⟨RX5, "end", "(I)I"⟩
abbrev cX5_slots : ByteArray := prog_7_method_22_code
def yX5_slots : MethodName := ⟨RX5, "slots", "(I)I"⟩
abbrev cX5_insert : ByteArray := prog_7_method_30_code
def yX5_insert : MethodName := ⟨RX5, "insert", "(II)I"⟩
abbrev cX5_remove : ByteArray := prog_7_method_31_code
def yX5_remove : MethodName := ⟨RX5, "remove", "(I)I"⟩
abbrev cX5_at : ByteArray := prog_7_method_32_code
def yX5_at : MethodName := ⟨RX5, "at", "(I)I"⟩
abbrev cX5_count : ByteArray := prog_7_method_34_code
def yX5_count : MethodName := ⟨RX5, "count", "(III)I"⟩
abbrev cX5_place : ByteArray := prog_7_method_35_code
def yX5_place : MethodName := ⟨RX5, "place", "(II)I"⟩
abbrev cX5_values : ByteArray := prog_7_method_36_code
def yX5_values : MethodName := ⟨RX5, "values", "()I"⟩
abbrev cX5_isEnough : ByteArray := prog_7_method_55_code
def yX5_isEnough : MethodName := ⟨RX5, "isEnough", "(II)Z"⟩
abbrev cX5_majorityOf : ByteArray := prog_7_method_60_code
def yX5_majorityOf : MethodName := ⟨RX5, "majorityOf", "(II)I"⟩
abbrev cX5_majority : ByteArray := prog_7_method_61_code
def yX5_majority : MethodName := ⟨RX5, "majority", "(II)I"⟩
abbrev cX5_margin : ByteArray := prog_7_method_62_code
def yX5_margin : MethodName := ⟨RX5, "margin", "(III)I"⟩
abbrev cX5_longest : ByteArray := prog_7_method_65_code
def yX5_longest : MethodName := ⟨RX5, "longest", "(IIII)I"⟩
abbrev cX5_cut : ByteArray := prog_7_method_68_code
def yX5_cut : MethodName := ⟨RX5, "cut", "(II)I"⟩
abbrev cX5_would : ByteArray := prog_7_method_78_code
def yX5_would : MethodName := ⟨RX5, "would", "(IIII)I"⟩
def wsX5_within : List Cond := .code yX5_within cX5_within 3 (some .boolean) :: ([])
def wsX5_isValue : List Cond := .code yX5_isValue cX5_isValue 1 (some .boolean) :: ([.methodLink RX5 80 yX5_within, .static yX5_within, .initialized RX5, .code yX5_within cX5_within 3 (some .boolean)])
def wsX5_isPlace : List Cond := .code yX5_isPlace cX5_isPlace 2 (some .boolean) :: ([.fieldLink RX5 84 "MajorityIndexModel" "n" "I", .methodLink RX5 80 yX5_within, .static yX5_within, .initialized RX5, .code yX5_within cX5_within 3 (some .boolean)] ++ wsX50)
def wsX5_isRange : List Cond := .code yX5_isRange cX5_isRange 3 (some .boolean) :: ([.fieldLink RX5 84 "MajorityIndexModel" "n" "I"] ++ wsX50)
def wsX5_isShare : List Cond := .code yX5_isShare cX5_isShare 2 (some .boolean) :: ([.methodLink RX5 80 yX5_within, .static yX5_within, .initialized RX5, .code yX5_within cX5_within 3 (some .boolean)])
def wsX5_feed : List Cond := .code yX5_feed cX5_feed 3 (some .int) :: ([.fieldLink RX5 77 "MajorityIndexModel" "thrown" "I", .fieldLink RX5 84 "MajorityIndexModel" "n" "I", .fieldLink RX5 7 "MajorityIndexModel" "row" "[I"] ++ wsX50)
def wsX5_end : List Cond := .code yX5_end cX5_end 2 (some .int) :: ([.fieldLink RX5 77 "MajorityIndexModel" "thrown" "I", .fieldLink RX5 84 "MajorityIndexModel" "n" "I", .methodLink RX5 80 yX5_within, .static yX5_within, .initialized RX5, .code yX5_within cX5_within 3 (some .boolean)] ++ wsX50)
def wsX5_slots : List Cond := .code yX5_slots cX5_slots 3 (some .int) :: ([.fieldLink RX5 77 "MajorityIndexModel" "thrown" "I", .fieldLink RX5 13 "MajorityIndexModel" "slots" "I", .methodLink RX5 80 yX5_within, .static yX5_within, .initialized RX5, .code yX5_within cX5_within 3 (some .boolean)] ++ wsX50)
def wsX5_insert : List Cond := .code yX5_insert cX5_insert 4 (some .int) :: ([.fieldLink RX5 77 "MajorityIndexModel" "thrown" "I", .fieldLink RX5 84 "MajorityIndexModel" "n" "I", .fieldLink RX5 7 "MajorityIndexModel" "row" "[I", .methodLink RX5 80 yX5_within, .static yX5_within, .initialized RX5, .code yX5_within cX5_within 3 (some .boolean), .methodLink RX5 132 yX5_isValue, .static yX5_isValue, .code yX5_isValue cX5_isValue 1 (some .boolean)] ++ wsX50)
def wsX5_remove : List Cond := .code yX5_remove cX5_remove 4 (some .int) :: ([.fieldLink RX5 77 "MajorityIndexModel" "thrown" "I", .constant RX5 148 (-40000), .fieldLink RX5 7 "MajorityIndexModel" "row" "[I", .fieldLink RX5 84 "MajorityIndexModel" "n" "I", .methodLink RX5 128 yX5_isPlace, .instanceMethod yX5_isPlace, .selects RX5 yX5_isPlace yX5_isPlace, .initialized RX5, .code yX5_isPlace cX5_isPlace 2 (some .boolean), .methodLink RX5 80 yX5_within, .static yX5_within, .code yX5_within cX5_within 3 (some .boolean)] ++ wsX50)
def wsX5_at : List Cond := .code yX5_at cX5_at 2 (some .int) :: ([.fieldLink RX5 77 "MajorityIndexModel" "thrown" "I", .fieldLink RX5 7 "MajorityIndexModel" "row" "[I", .methodLink RX5 128 yX5_isPlace, .instanceMethod yX5_isPlace, .selects RX5 yX5_isPlace yX5_isPlace, .initialized RX5, .code yX5_isPlace cX5_isPlace 2 (some .boolean), .fieldLink RX5 84 "MajorityIndexModel" "n" "I", .methodLink RX5 80 yX5_within, .static yX5_within, .code yX5_within cX5_within 3 (some .boolean)] ++ wsX50)
def wsX5_count : List Cond := .code yX5_count cX5_count 4 (some .int) :: ([.fieldLink RX5 77 "MajorityIndexModel" "thrown" "I", .methodLink RX5 132 yX5_isValue, .static yX5_isValue, .initialized RX5, .code yX5_isValue cX5_isValue 1 (some .boolean), .methodLink RX5 80 yX5_within, .static yX5_within, .code yX5_within cX5_within 3 (some .boolean), .methodLink RX5 142 yX5_isRange, .instanceMethod yX5_isRange, .selects RX5 yX5_isRange yX5_isRange, .code yX5_isRange cX5_isRange 3 (some .boolean), .fieldLink RX5 84 "MajorityIndexModel" "n" "I", .methodLink RX5 149 yX5_times, .instanceMethod yX5_times, .selects RX5 yX5_times yX5_times, .code yX5_times cX5_times 6 (some .int), .fieldLink RX5 7 "MajorityIndexModel" "row" "[I"] ++ wsX50)
def wsX5_place : List Cond := .code yX5_place cX5_place 5 (some .int) :: ([.fieldLink RX5 77 "MajorityIndexModel" "thrown" "I", .fieldLink RX5 84 "MajorityIndexModel" "n" "I", .fieldLink RX5 7 "MajorityIndexModel" "row" "[I"] ++ wsX50)
def wsX5_values : List Cond := .code yX5_values cX5_values 3 (some .int) :: ([.fieldLink RX5 77 "MajorityIndexModel" "thrown" "I", .fieldLink RX5 84 "MajorityIndexModel" "n" "I", .fieldLink RX5 7 "MajorityIndexModel" "row" "[I", .methodLink RX5 149 yX5_times, .instanceMethod yX5_times, .selects RX5 yX5_times yX5_times, .initialized RX5, .code yX5_times cX5_times 6 (some .int)] ++ wsX50)
def wsX5_isEnough : List Cond := .code yX5_isEnough cX5_isEnough 3 (some .boolean) :: ([.fieldLink RX5 13 "MajorityIndexModel" "slots" "I"] ++ wsX50)
def wsX5_majorityOf : List Cond := .code yX5_majorityOf cX5_majorityOf 4 (some .int) :: ([.fieldLink RX5 7 "MajorityIndexModel" "row" "[I", .constant RX5 148 (-40000), .methodLink RX5 149 yX5_times, .instanceMethod yX5_times, .selects RX5 yX5_times yX5_times, .initialized RX5, .code yX5_times cX5_times 6 (some .int)] ++ wsX50)
def wsX5_majority : List Cond := .code yX5_majority cX5_majority 3 (some .int) :: ([.fieldLink RX5 77 "MajorityIndexModel" "thrown" "I", .constant RX5 148 (-40000), .methodLink RX5 142 yX5_isRange, .instanceMethod yX5_isRange, .selects RX5 yX5_isRange yX5_isRange, .initialized RX5, .code yX5_isRange cX5_isRange 3 (some .boolean), .fieldLink RX5 84 "MajorityIndexModel" "n" "I", .methodLink RX5 194 yX5_majorityOf, .instanceMethod yX5_majorityOf, .selects RX5 yX5_majorityOf yX5_majorityOf, .code yX5_majorityOf cX5_majorityOf 4 (some .int), .fieldLink RX5 7 "MajorityIndexModel" "row" "[I", .methodLink RX5 149 yX5_times, .instanceMethod yX5_times, .selects RX5 yX5_times yX5_times, .code yX5_times cX5_times 6 (some .int)] ++ wsX50)
def wsX5_margin : List Cond := .code yX5_margin cX5_margin 4 (some .int) :: ([.fieldLink RX5 77 "MajorityIndexModel" "thrown" "I", .constant RX5 148 (-40000), .methodLink RX5 132 yX5_isValue, .static yX5_isValue, .initialized RX5, .code yX5_isValue cX5_isValue 1 (some .boolean), .methodLink RX5 80 yX5_within, .static yX5_within, .code yX5_within cX5_within 3 (some .boolean), .methodLink RX5 142 yX5_isRange, .instanceMethod yX5_isRange, .selects RX5 yX5_isRange yX5_isRange, .code yX5_isRange cX5_isRange 3 (some .boolean), .fieldLink RX5 84 "MajorityIndexModel" "n" "I", .methodLink RX5 149 yX5_times, .instanceMethod yX5_times, .selects RX5 yX5_times yX5_times, .code yX5_times cX5_times 6 (some .int), .fieldLink RX5 7 "MajorityIndexModel" "row" "[I"] ++ wsX50)
def wsX5_longest : List Cond := .code yX5_longest cX5_longest 10 (some .int) :: ([.fieldLink RX5 77 "MajorityIndexModel" "thrown" "I", .fieldLink RX5 84 "MajorityIndexModel" "n" "I", .fieldLink RX5 7 "MajorityIndexModel" "row" "[I", .methodLink RX5 132 yX5_isValue, .static yX5_isValue, .initialized RX5, .code yX5_isValue cX5_isValue 1 (some .boolean), .methodLink RX5 80 yX5_within, .static yX5_within, .code yX5_within cX5_within 3 (some .boolean), .methodLink RX5 184 yX5_isShare, .static yX5_isShare, .code yX5_isShare cX5_isShare 2 (some .boolean)] ++ wsX50)
def wsX5_cut : List Cond := .code yX5_cut cX5_cut 6 (some .int) :: ([.fieldLink RX5 77 "MajorityIndexModel" "thrown" "I", .constant RX5 148 (-40000), .methodLink RX5 142 yX5_isRange, .instanceMethod yX5_isRange, .selects RX5 yX5_isRange yX5_isRange, .initialized RX5, .code yX5_isRange cX5_isRange 3 (some .boolean), .fieldLink RX5 84 "MajorityIndexModel" "n" "I", .methodLink RX5 194 yX5_majorityOf, .instanceMethod yX5_majorityOf, .selects RX5 yX5_majorityOf yX5_majorityOf, .code yX5_majorityOf cX5_majorityOf 4 (some .int), .fieldLink RX5 7 "MajorityIndexModel" "row" "[I", .methodLink RX5 149 yX5_times, .instanceMethod yX5_times, .selects RX5 yX5_times yX5_times, .code yX5_times cX5_times 6 (some .int)] ++ wsX50)
def wsX5_would_r1 : List Cond := [Cond.fieldLink RX5 77 "MajorityIndexModel" "thrown" "I", Cond.constant RX5 148 (-40000), Cond.fieldLink RX5 7 "MajorityIndexModel" "row" "[I", Cond.methodLink RX5 128 yX5_isPlace, Cond.instanceMethod yX5_isPlace, Cond.selects RX5 yX5_isPlace yX5_isPlace, Cond.initialized RX5, Cond.code yX5_isPlace cX5_isPlace 2 (some .boolean), Cond.fieldLink RX5 84 "MajorityIndexModel" "n" "I", Cond.methodLink RX5 80 yX5_within, Cond.static yX5_within, Cond.code yX5_within cX5_within 3 (some .boolean), Cond.methodLink RX5 132 yX5_isValue, Cond.static yX5_isValue, Cond.code yX5_isValue cX5_isValue 1 (some .boolean), Cond.methodLink RX5 142 yX5_isRange, Cond.instanceMethod yX5_isRange, Cond.selects RX5 yX5_isRange yX5_isRange, Cond.code yX5_isRange cX5_isRange 3 (some .boolean), Cond.methodLink RX5 194 yX5_majorityOf, Cond.instanceMethod yX5_majorityOf, Cond.selects RX5 yX5_majorityOf yX5_majorityOf, Cond.code yX5_majorityOf cX5_majorityOf 4 (some .int), Cond.methodLink RX5 149 yX5_times]
def wsX5_would_r2 : List Cond := [Cond.instanceMethod yX5_times, Cond.selects RX5 yX5_times yX5_times, Cond.code yX5_times cX5_times 6 (some .int)]
def wsX5_would : List Cond := .code yX5_would cX5_would 7 (some .int) :: ((wsX5_would_r1 ++ wsX5_would_r2) ++ wsX50)
def dt_cX5_within_0 : List (Nat × Nat × Nat × Nat) := [(0, 26, 0, 0), (1, 27, 0, 0), (2, 161, 2, 12), (5, 26, 0, 0), (6, 28, 0, 0), (7, 163, 2, 7), (10, 4, 0, 0), (11, 167, 2, 4), (14, 3, 0, 0), (15, 172, 0, 0)]
theorem da_cX5_within_0 : fw dt_cX5_within_0 0 cX5_within.data.toList = true := by decide +kernel
theorem dX5_within_0 : decode cX5_within 0 = .ok (.iload_n 0, 1) := fo_26 (fw_get da_cX5_within_0 0 rfl)
theorem dX5_within_1 : decode cX5_within 1 = .ok (.iload_n 1, 1) := fo_27 (fw_get da_cX5_within_0 1 rfl)
theorem dX5_within_2 : decode cX5_within 2 = .ok (.if_icmp .lt 12, 3) := fo_161 (fw_get da_cX5_within_0 2 rfl) (by decide +kernel)
theorem dX5_within_5 : decode cX5_within 5 = .ok (.iload_n 0, 1) := fo_26 (fw_get da_cX5_within_0 3 rfl)
theorem dX5_within_6 : decode cX5_within 6 = .ok (.iload_n 2, 1) := fo_28 (fw_get da_cX5_within_0 4 rfl)
theorem dX5_within_7 : decode cX5_within 7 = .ok (.if_icmp .gt 7, 3) := fo_163 (fw_get da_cX5_within_0 5 rfl) (by decide +kernel)
theorem dX5_within_10 : decode cX5_within 10 = .ok (.iconst 1, 1) := fo_4 (fw_get da_cX5_within_0 6 rfl)
theorem dX5_within_11 : decode cX5_within 11 = .ok (.goto 4, 3) := fo_167 (fw_get da_cX5_within_0 7 rfl) (by decide +kernel)
theorem dX5_within_14 : decode cX5_within 14 = .ok (.iconst 0, 1) := fo_3 (fw_get da_cX5_within_0 8 rfl)
theorem dX5_within_15 : decode cX5_within 15 = .ok (.ireturn, 1) := fo_172 (fw_get da_cX5_within_0 9 rfl)
set_option maxRecDepth 20000 in
theorem ggX5_isValue_X5_within : GoodIn wsX5_isValue wsX5_within := goodIn_r _ [4] rfl (by decide +kernel)
set_option maxRecDepth 20000 in
theorem gX5_isValue_X5_within : GoodIn wsX5_isValue (va_wsS RX5 80 yX5_within wsX5_within) := goodIn_app (goodIn_r _ [1, 2, 3] rfl (by decide +kernel)) ggX5_isValue_X5_within
def dt_cX5_isValue_0 : List (Nat × Nat × Nat × Nat) := [(0, 26, 0, 0), (1, 17, 2, 32768), (4, 17, 2, 32767), (7, 184, 2, 80), (10, 172, 0, 0)]
theorem da_cX5_isValue_0 : fw dt_cX5_isValue_0 0 cX5_isValue.data.toList = true := by decide +kernel
theorem dX5_isValue_0 : decode cX5_isValue 0 = .ok (.iload_n 0, 1) := fo_26 (fw_get da_cX5_isValue_0 0 rfl)
theorem dX5_isValue_1 : decode cX5_isValue 1 = .ok (.sipush (-32768), 3) := fo_17 (fw_get da_cX5_isValue_0 1 rfl) (by decide +kernel)
theorem dX5_isValue_4 : decode cX5_isValue 4 = .ok (.sipush 32767, 3) := fo_17 (fw_get da_cX5_isValue_0 2 rfl) (by decide +kernel)
theorem dX5_isValue_7 : decode cX5_isValue 7 = .ok (.invokestatic 80, 3) := fo_184 (fw_get da_cX5_isValue_0 3 rfl)
theorem dX5_isValue_10 : decode cX5_isValue 10 = .ok (.ireturn, 1) := fo_172 (fw_get da_cX5_isValue_0 4 rfl)
set_option maxRecDepth 20000 in
theorem ggX5_isPlace_X5_within : GoodIn wsX5_isPlace wsX5_within := goodIn_r _ [5] rfl (by decide +kernel)
set_option maxRecDepth 20000 in
theorem gX5_isPlace_X5_within : GoodIn wsX5_isPlace (va_wsS RX5 80 yX5_within wsX5_within) := goodIn_app (goodIn_r _ [2, 3, 4] rfl (by decide +kernel)) ggX5_isPlace_X5_within
def dt_cX5_isPlace_0 : List (Nat × Nat × Nat × Nat) := [(0, 27, 0, 0), (1, 3, 0, 0), (2, 42, 0, 0), (3, 180, 2, 84), (6, 4, 0, 0), (7, 100, 0, 0), (8, 184, 2, 80), (11, 172, 0, 0)]
theorem da_cX5_isPlace_0 : fw dt_cX5_isPlace_0 0 cX5_isPlace.data.toList = true := by decide +kernel
theorem dX5_isPlace_0 : decode cX5_isPlace 0 = .ok (.iload_n 1, 1) := fo_27 (fw_get da_cX5_isPlace_0 0 rfl)
theorem dX5_isPlace_1 : decode cX5_isPlace 1 = .ok (.iconst 0, 1) := fo_3 (fw_get da_cX5_isPlace_0 1 rfl)
theorem dX5_isPlace_2 : decode cX5_isPlace 2 = .ok (.aload_n 0, 1) := fo_42 (fw_get da_cX5_isPlace_0 2 rfl)
theorem dX5_isPlace_3 : decode cX5_isPlace 3 = .ok (.getfield 84, 3) := fo_180 (fw_get da_cX5_isPlace_0 3 rfl)
theorem dX5_isPlace_6 : decode cX5_isPlace 6 = .ok (.iconst 1, 1) := fo_4 (fw_get da_cX5_isPlace_0 4 rfl)
theorem dX5_isPlace_7 : decode cX5_isPlace 7 = .ok (.isub, 1) := fo_100 (fw_get da_cX5_isPlace_0 5 rfl)
theorem dX5_isPlace_8 : decode cX5_isPlace 8 = .ok (.invokestatic 80, 3) := fo_184 (fw_get da_cX5_isPlace_0 6 rfl)
theorem dX5_isPlace_11 : decode cX5_isPlace 11 = .ok (.ireturn, 1) := fo_172 (fw_get da_cX5_isPlace_0 7 rfl)
def dt_cX5_isRange_0 : List (Nat × Nat × Nat × Nat) := [(0, 27, 0, 0), (1, 155, 2, 20), (4, 27, 0, 0), (5, 28, 0, 0), (6, 162, 2, 15), (9, 28, 0, 0), (10, 42, 0, 0), (11, 180, 2, 84), (14, 163, 2, 7), (17, 4, 0, 0), (18, 167, 2, 4), (21, 3, 0, 0), (22, 172, 0, 0)]
theorem da_cX5_isRange_0 : fw dt_cX5_isRange_0 0 cX5_isRange.data.toList = true := by decide +kernel
theorem dX5_isRange_0 : decode cX5_isRange 0 = .ok (.iload_n 1, 1) := fo_27 (fw_get da_cX5_isRange_0 0 rfl)
theorem dX5_isRange_1 : decode cX5_isRange 1 = .ok (.ifCond .lt 20, 3) := fo_155 (fw_get da_cX5_isRange_0 1 rfl) (by decide +kernel)
theorem dX5_isRange_4 : decode cX5_isRange 4 = .ok (.iload_n 1, 1) := fo_27 (fw_get da_cX5_isRange_0 2 rfl)
theorem dX5_isRange_5 : decode cX5_isRange 5 = .ok (.iload_n 2, 1) := fo_28 (fw_get da_cX5_isRange_0 3 rfl)
theorem dX5_isRange_6 : decode cX5_isRange 6 = .ok (.if_icmp .ge 15, 3) := fo_162 (fw_get da_cX5_isRange_0 4 rfl) (by decide +kernel)
theorem dX5_isRange_9 : decode cX5_isRange 9 = .ok (.iload_n 2, 1) := fo_28 (fw_get da_cX5_isRange_0 5 rfl)
theorem dX5_isRange_10 : decode cX5_isRange 10 = .ok (.aload_n 0, 1) := fo_42 (fw_get da_cX5_isRange_0 6 rfl)
theorem dX5_isRange_11 : decode cX5_isRange 11 = .ok (.getfield 84, 3) := fo_180 (fw_get da_cX5_isRange_0 7 rfl)
theorem dX5_isRange_14 : decode cX5_isRange 14 = .ok (.if_icmp .gt 7, 3) := fo_163 (fw_get da_cX5_isRange_0 8 rfl) (by decide +kernel)
theorem dX5_isRange_17 : decode cX5_isRange 17 = .ok (.iconst 1, 1) := fo_4 (fw_get da_cX5_isRange_0 9 rfl)
theorem dX5_isRange_18 : decode cX5_isRange 18 = .ok (.goto 4, 3) := fo_167 (fw_get da_cX5_isRange_0 10 rfl) (by decide +kernel)
theorem dX5_isRange_21 : decode cX5_isRange 21 = .ok (.iconst 0, 1) := fo_3 (fw_get da_cX5_isRange_0 11 rfl)
theorem dX5_isRange_22 : decode cX5_isRange 22 = .ok (.ireturn, 1) := fo_172 (fw_get da_cX5_isRange_0 12 rfl)
set_option maxRecDepth 20000 in
theorem ggX5_isShare_X5_within : GoodIn wsX5_isShare wsX5_within := goodIn_r _ [4] rfl (by decide +kernel)
set_option maxRecDepth 20000 in
theorem gX5_isShare_X5_within : GoodIn wsX5_isShare (va_wsS RX5 80 yX5_within wsX5_within) := goodIn_app (goodIn_r _ [1, 2, 3] rfl (by decide +kernel)) ggX5_isShare_X5_within
def dt_cX5_isShare_0 : List (Nat × Nat × Nat × Nat) := [(0, 26, 0, 0), (1, 4, 0, 0), (2, 17, 2, 999), (5, 184, 2, 80), (8, 153, 2, 18), (11, 27, 0, 0), (12, 26, 0, 0), (13, 17, 2, 999), (16, 184, 2, 80), (19, 153, 2, 7), (22, 4, 0, 0), (23, 167, 2, 4), (26, 3, 0, 0), (27, 172, 0, 0)]
theorem da_cX5_isShare_0 : fw dt_cX5_isShare_0 0 cX5_isShare.data.toList = true := by decide +kernel
theorem dX5_isShare_0 : decode cX5_isShare 0 = .ok (.iload_n 0, 1) := fo_26 (fw_get da_cX5_isShare_0 0 rfl)
theorem dX5_isShare_1 : decode cX5_isShare 1 = .ok (.iconst 1, 1) := fo_4 (fw_get da_cX5_isShare_0 1 rfl)
theorem dX5_isShare_2 : decode cX5_isShare 2 = .ok (.sipush 999, 3) := fo_17 (fw_get da_cX5_isShare_0 2 rfl) (by decide +kernel)
theorem dX5_isShare_5 : decode cX5_isShare 5 = .ok (.invokestatic 80, 3) := fo_184 (fw_get da_cX5_isShare_0 3 rfl)
theorem dX5_isShare_8 : decode cX5_isShare 8 = .ok (.ifCond .eq 18, 3) := fo_153 (fw_get da_cX5_isShare_0 4 rfl) (by decide +kernel)
theorem dX5_isShare_11 : decode cX5_isShare 11 = .ok (.iload_n 1, 1) := fo_27 (fw_get da_cX5_isShare_0 5 rfl)
theorem dX5_isShare_12 : decode cX5_isShare 12 = .ok (.iload_n 0, 1) := fo_26 (fw_get da_cX5_isShare_0 6 rfl)
theorem dX5_isShare_13 : decode cX5_isShare 13 = .ok (.sipush 999, 3) := fo_17 (fw_get da_cX5_isShare_0 7 rfl) (by decide +kernel)
theorem dX5_isShare_16 : decode cX5_isShare 16 = .ok (.invokestatic 80, 3) := fo_184 (fw_get da_cX5_isShare_0 8 rfl)
theorem dX5_isShare_19 : decode cX5_isShare 19 = .ok (.ifCond .eq 7, 3) := fo_153 (fw_get da_cX5_isShare_0 9 rfl) (by decide +kernel)
theorem dX5_isShare_22 : decode cX5_isShare 22 = .ok (.iconst 1, 1) := fo_4 (fw_get da_cX5_isShare_0 10 rfl)
theorem dX5_isShare_23 : decode cX5_isShare 23 = .ok (.goto 4, 3) := fo_167 (fw_get da_cX5_isShare_0 11 rfl) (by decide +kernel)
theorem dX5_isShare_26 : decode cX5_isShare 26 = .ok (.iconst 0, 1) := fo_3 (fw_get da_cX5_isShare_0 12 rfl)
theorem dX5_isShare_27 : decode cX5_isShare 27 = .ok (.ireturn, 1) := fo_172 (fw_get da_cX5_isShare_0 13 rfl)
def dt_cX5_feed_0 : List (Nat × Nat × Nat × Nat) := [(0, 42, 0, 0), (1, 3, 0, 0), (2, 181, 2, 77), (5, 42, 0, 0), (6, 180, 2, 84), (9, 7, 0, 0), (10, 96, 0, 0), (11, 17, 2, 160), (14, 164, 2, 5), (17, 2, 0, 0), (18, 172, 0, 0), (19, 42, 0, 0), (20, 180, 2, 7), (23, 42, 0, 0), (24, 180, 2, 84), (27, 27, 0, 0), (28, 16, 1, 16), (30, 122, 0, 0), (31, 147, 0, 0), (32, 79, 0, 0)]
theorem da_cX5_feed_0 : fw dt_cX5_feed_0 0 cX5_feed.data.toList = true := by decide +kernel
theorem dX5_feed_0 : decode cX5_feed 0 = .ok (.aload_n 0, 1) := fo_42 (fw_get da_cX5_feed_0 0 rfl)
theorem dX5_feed_1 : decode cX5_feed 1 = .ok (.iconst 0, 1) := fo_3 (fw_get da_cX5_feed_0 1 rfl)
theorem dX5_feed_2 : decode cX5_feed 2 = .ok (.putfield 77, 3) := fo_181 (fw_get da_cX5_feed_0 2 rfl)
theorem dX5_feed_5 : decode cX5_feed 5 = .ok (.aload_n 0, 1) := fo_42 (fw_get da_cX5_feed_0 3 rfl)
theorem dX5_feed_6 : decode cX5_feed 6 = .ok (.getfield 84, 3) := fo_180 (fw_get da_cX5_feed_0 4 rfl)
theorem dX5_feed_9 : decode cX5_feed 9 = .ok (.iconst 4, 1) := fo_7 (fw_get da_cX5_feed_0 5 rfl)
theorem dX5_feed_10 : decode cX5_feed 10 = .ok (.iadd, 1) := fo_96 (fw_get da_cX5_feed_0 6 rfl)
theorem dX5_feed_11 : decode cX5_feed 11 = .ok (.sipush 160, 3) := fo_17 (fw_get da_cX5_feed_0 7 rfl) (by decide +kernel)
theorem dX5_feed_14 : decode cX5_feed 14 = .ok (.if_icmp .le 5, 3) := fo_164 (fw_get da_cX5_feed_0 8 rfl) (by decide +kernel)
theorem dX5_feed_17 : decode cX5_feed 17 = .ok (.iconst (-1), 1) := fo_2 (fw_get da_cX5_feed_0 9 rfl)
theorem dX5_feed_18 : decode cX5_feed 18 = .ok (.ireturn, 1) := fo_172 (fw_get da_cX5_feed_0 10 rfl)
theorem dX5_feed_19 : decode cX5_feed 19 = .ok (.aload_n 0, 1) := fo_42 (fw_get da_cX5_feed_0 11 rfl)
theorem dX5_feed_20 : decode cX5_feed 20 = .ok (.getfield 7, 3) := fo_180 (fw_get da_cX5_feed_0 12 rfl)
theorem dX5_feed_23 : decode cX5_feed 23 = .ok (.aload_n 0, 1) := fo_42 (fw_get da_cX5_feed_0 13 rfl)
theorem dX5_feed_24 : decode cX5_feed 24 = .ok (.getfield 84, 3) := fo_180 (fw_get da_cX5_feed_0 14 rfl)
theorem dX5_feed_27 : decode cX5_feed 27 = .ok (.iload_n 1, 1) := fo_27 (fw_get da_cX5_feed_0 15 rfl)
theorem dX5_feed_28 : decode cX5_feed 28 = .ok (.bipush 16, 2) := fo_16 (fw_get da_cX5_feed_0 16 rfl) (by decide +kernel)
theorem dX5_feed_30 : decode cX5_feed 30 = .ok (.ishr, 1) := fo_122 (fw_get da_cX5_feed_0 17 rfl)
theorem dX5_feed_31 : decode cX5_feed 31 = .ok (.i2s, 1) := fo_147 (fw_get da_cX5_feed_0 18 rfl)
theorem dX5_feed_32 : decode cX5_feed 32 = .ok (.iastore, 1) := fo_79 (fw_get da_cX5_feed_0 19 rfl)
def dt_cX5_feed_1 : List (Nat × Nat × Nat × Nat) := [(33, 42, 0, 0), (34, 180, 2, 7), (37, 42, 0, 0), (38, 180, 2, 84), (41, 4, 0, 0), (42, 96, 0, 0), (43, 27, 0, 0), (44, 147, 0, 0), (45, 79, 0, 0), (46, 42, 0, 0), (47, 180, 2, 7), (50, 42, 0, 0), (51, 180, 2, 84), (54, 5, 0, 0), (55, 96, 0, 0), (56, 28, 0, 0), (57, 16, 1, 16), (59, 122, 0, 0), (60, 147, 0, 0), (61, 79, 0, 0)]
theorem da_cX5_feed_1 : fw dt_cX5_feed_1 0 cX5_feed.data.toList = true := by decide +kernel
theorem dX5_feed_33 : decode cX5_feed 33 = .ok (.aload_n 0, 1) := fo_42 (fw_get da_cX5_feed_1 0 rfl)
theorem dX5_feed_34 : decode cX5_feed 34 = .ok (.getfield 7, 3) := fo_180 (fw_get da_cX5_feed_1 1 rfl)
theorem dX5_feed_37 : decode cX5_feed 37 = .ok (.aload_n 0, 1) := fo_42 (fw_get da_cX5_feed_1 2 rfl)
theorem dX5_feed_38 : decode cX5_feed 38 = .ok (.getfield 84, 3) := fo_180 (fw_get da_cX5_feed_1 3 rfl)
theorem dX5_feed_41 : decode cX5_feed 41 = .ok (.iconst 1, 1) := fo_4 (fw_get da_cX5_feed_1 4 rfl)
theorem dX5_feed_42 : decode cX5_feed 42 = .ok (.iadd, 1) := fo_96 (fw_get da_cX5_feed_1 5 rfl)
theorem dX5_feed_43 : decode cX5_feed 43 = .ok (.iload_n 1, 1) := fo_27 (fw_get da_cX5_feed_1 6 rfl)
theorem dX5_feed_44 : decode cX5_feed 44 = .ok (.i2s, 1) := fo_147 (fw_get da_cX5_feed_1 7 rfl)
theorem dX5_feed_45 : decode cX5_feed 45 = .ok (.iastore, 1) := fo_79 (fw_get da_cX5_feed_1 8 rfl)
theorem dX5_feed_46 : decode cX5_feed 46 = .ok (.aload_n 0, 1) := fo_42 (fw_get da_cX5_feed_1 9 rfl)
theorem dX5_feed_47 : decode cX5_feed 47 = .ok (.getfield 7, 3) := fo_180 (fw_get da_cX5_feed_1 10 rfl)
theorem dX5_feed_50 : decode cX5_feed 50 = .ok (.aload_n 0, 1) := fo_42 (fw_get da_cX5_feed_1 11 rfl)
theorem dX5_feed_51 : decode cX5_feed 51 = .ok (.getfield 84, 3) := fo_180 (fw_get da_cX5_feed_1 12 rfl)
theorem dX5_feed_54 : decode cX5_feed 54 = .ok (.iconst 2, 1) := fo_5 (fw_get da_cX5_feed_1 13 rfl)
theorem dX5_feed_55 : decode cX5_feed 55 = .ok (.iadd, 1) := fo_96 (fw_get da_cX5_feed_1 14 rfl)
theorem dX5_feed_56 : decode cX5_feed 56 = .ok (.iload_n 2, 1) := fo_28 (fw_get da_cX5_feed_1 15 rfl)
theorem dX5_feed_57 : decode cX5_feed 57 = .ok (.bipush 16, 2) := fo_16 (fw_get da_cX5_feed_1 16 rfl) (by decide +kernel)
theorem dX5_feed_59 : decode cX5_feed 59 = .ok (.ishr, 1) := fo_122 (fw_get da_cX5_feed_1 17 rfl)
theorem dX5_feed_60 : decode cX5_feed 60 = .ok (.i2s, 1) := fo_147 (fw_get da_cX5_feed_1 18 rfl)
theorem dX5_feed_61 : decode cX5_feed 61 = .ok (.iastore, 1) := fo_79 (fw_get da_cX5_feed_1 19 rfl)
def dt_cX5_feed_2 : List (Nat × Nat × Nat × Nat) := [(62, 42, 0, 0), (63, 180, 2, 7), (66, 42, 0, 0), (67, 180, 2, 84), (70, 6, 0, 0), (71, 96, 0, 0), (72, 28, 0, 0), (73, 147, 0, 0), (74, 79, 0, 0), (75, 42, 0, 0), (76, 89, 0, 0), (77, 180, 2, 84), (80, 7, 0, 0), (81, 96, 0, 0), (82, 181, 2, 84), (85, 42, 0, 0), (86, 180, 2, 84), (89, 172, 0, 0)]
theorem da_cX5_feed_2 : fw dt_cX5_feed_2 0 cX5_feed.data.toList = true := by decide +kernel
theorem dX5_feed_62 : decode cX5_feed 62 = .ok (.aload_n 0, 1) := fo_42 (fw_get da_cX5_feed_2 0 rfl)
theorem dX5_feed_63 : decode cX5_feed 63 = .ok (.getfield 7, 3) := fo_180 (fw_get da_cX5_feed_2 1 rfl)
theorem dX5_feed_66 : decode cX5_feed 66 = .ok (.aload_n 0, 1) := fo_42 (fw_get da_cX5_feed_2 2 rfl)
theorem dX5_feed_67 : decode cX5_feed 67 = .ok (.getfield 84, 3) := fo_180 (fw_get da_cX5_feed_2 3 rfl)
theorem dX5_feed_70 : decode cX5_feed 70 = .ok (.iconst 3, 1) := fo_6 (fw_get da_cX5_feed_2 4 rfl)
theorem dX5_feed_71 : decode cX5_feed 71 = .ok (.iadd, 1) := fo_96 (fw_get da_cX5_feed_2 5 rfl)
theorem dX5_feed_72 : decode cX5_feed 72 = .ok (.iload_n 2, 1) := fo_28 (fw_get da_cX5_feed_2 6 rfl)
theorem dX5_feed_73 : decode cX5_feed 73 = .ok (.i2s, 1) := fo_147 (fw_get da_cX5_feed_2 7 rfl)
theorem dX5_feed_74 : decode cX5_feed 74 = .ok (.iastore, 1) := fo_79 (fw_get da_cX5_feed_2 8 rfl)
theorem dX5_feed_75 : decode cX5_feed 75 = .ok (.aload_n 0, 1) := fo_42 (fw_get da_cX5_feed_2 9 rfl)
theorem dX5_feed_76 : decode cX5_feed 76 = .ok (.dup, 1) := fo_89 (fw_get da_cX5_feed_2 10 rfl)
theorem dX5_feed_77 : decode cX5_feed 77 = .ok (.getfield 84, 3) := fo_180 (fw_get da_cX5_feed_2 11 rfl)
theorem dX5_feed_80 : decode cX5_feed 80 = .ok (.iconst 4, 1) := fo_7 (fw_get da_cX5_feed_2 12 rfl)
theorem dX5_feed_81 : decode cX5_feed 81 = .ok (.iadd, 1) := fo_96 (fw_get da_cX5_feed_2 13 rfl)
theorem dX5_feed_82 : decode cX5_feed 82 = .ok (.putfield 84, 3) := fo_181 (fw_get da_cX5_feed_2 14 rfl)
theorem dX5_feed_85 : decode cX5_feed 85 = .ok (.aload_n 0, 1) := fo_42 (fw_get da_cX5_feed_2 15 rfl)
theorem dX5_feed_86 : decode cX5_feed 86 = .ok (.getfield 84, 3) := fo_180 (fw_get da_cX5_feed_2 16 rfl)
theorem dX5_feed_89 : decode cX5_feed 89 = .ok (.ireturn, 1) := fo_172 (fw_get da_cX5_feed_2 17 rfl)
set_option maxRecDepth 20000 in
theorem ggX5_end_X5_within : GoodIn wsX5_end wsX5_within := goodIn_r _ [6] rfl (by decide +kernel)
set_option maxRecDepth 20000 in
theorem gX5_end_X5_within : GoodIn wsX5_end (va_wsS RX5 80 yX5_within wsX5_within) := goodIn_app (goodIn_r _ [3, 4, 5] rfl (by decide +kernel)) ggX5_end_X5_within
def dt_cX5_end_0 : List (Nat × Nat × Nat × Nat) := [(0, 42, 0, 0), (1, 3, 0, 0), (2, 181, 2, 77), (5, 27, 0, 0), (6, 3, 0, 0), (7, 42, 0, 0), (8, 180, 2, 84), (11, 184, 2, 80), (14, 154, 2, 5), (17, 2, 0, 0), (18, 172, 0, 0), (19, 42, 0, 0), (20, 27, 0, 0), (21, 181, 2, 84), (24, 42, 0, 0), (25, 180, 2, 84), (28, 172, 0, 0)]
theorem da_cX5_end_0 : fw dt_cX5_end_0 0 cX5_end.data.toList = true := by decide +kernel
theorem dX5_end_0 : decode cX5_end 0 = .ok (.aload_n 0, 1) := fo_42 (fw_get da_cX5_end_0 0 rfl)
theorem dX5_end_1 : decode cX5_end 1 = .ok (.iconst 0, 1) := fo_3 (fw_get da_cX5_end_0 1 rfl)
theorem dX5_end_2 : decode cX5_end 2 = .ok (.putfield 77, 3) := fo_181 (fw_get da_cX5_end_0 2 rfl)
theorem dX5_end_5 : decode cX5_end 5 = .ok (.iload_n 1, 1) := fo_27 (fw_get da_cX5_end_0 3 rfl)
theorem dX5_end_6 : decode cX5_end 6 = .ok (.iconst 0, 1) := fo_3 (fw_get da_cX5_end_0 4 rfl)
theorem dX5_end_7 : decode cX5_end 7 = .ok (.aload_n 0, 1) := fo_42 (fw_get da_cX5_end_0 5 rfl)
theorem dX5_end_8 : decode cX5_end 8 = .ok (.getfield 84, 3) := fo_180 (fw_get da_cX5_end_0 6 rfl)
theorem dX5_end_11 : decode cX5_end 11 = .ok (.invokestatic 80, 3) := fo_184 (fw_get da_cX5_end_0 7 rfl)
theorem dX5_end_14 : decode cX5_end 14 = .ok (.ifCond .ne 5, 3) := fo_154 (fw_get da_cX5_end_0 8 rfl) (by decide +kernel)
theorem dX5_end_17 : decode cX5_end 17 = .ok (.iconst (-1), 1) := fo_2 (fw_get da_cX5_end_0 9 rfl)
theorem dX5_end_18 : decode cX5_end 18 = .ok (.ireturn, 1) := fo_172 (fw_get da_cX5_end_0 10 rfl)
theorem dX5_end_19 : decode cX5_end 19 = .ok (.aload_n 0, 1) := fo_42 (fw_get da_cX5_end_0 11 rfl)
theorem dX5_end_20 : decode cX5_end 20 = .ok (.iload_n 1, 1) := fo_27 (fw_get da_cX5_end_0 12 rfl)
theorem dX5_end_21 : decode cX5_end 21 = .ok (.putfield 84, 3) := fo_181 (fw_get da_cX5_end_0 13 rfl)
theorem dX5_end_24 : decode cX5_end 24 = .ok (.aload_n 0, 1) := fo_42 (fw_get da_cX5_end_0 14 rfl)
theorem dX5_end_25 : decode cX5_end 25 = .ok (.getfield 84, 3) := fo_180 (fw_get da_cX5_end_0 15 rfl)
theorem dX5_end_28 : decode cX5_end 28 = .ok (.ireturn, 1) := fo_172 (fw_get da_cX5_end_0 16 rfl)
set_option maxRecDepth 20000 in
theorem ggX5_slots_X5_within : GoodIn wsX5_slots wsX5_within := goodIn_r _ [6] rfl (by decide +kernel)
set_option maxRecDepth 20000 in
theorem gX5_slots_X5_within : GoodIn wsX5_slots (va_wsS RX5 80 yX5_within wsX5_within) := goodIn_app (goodIn_r _ [3, 4, 5] rfl (by decide +kernel)) ggX5_slots_X5_within
def dt_cX5_slots_0 : List (Nat × Nat × Nat × Nat) := [(0, 42, 0, 0), (1, 3, 0, 0), (2, 181, 2, 77), (5, 27, 0, 0), (6, 4, 0, 0), (7, 16, 1, 6), (9, 184, 2, 80), (12, 154, 2, 5), (15, 2, 0, 0), (16, 172, 0, 0), (17, 42, 0, 0), (18, 180, 2, 13), (21, 61, 0, 0), (22, 42, 0, 0), (23, 27, 0, 0), (24, 181, 2, 13), (27, 28, 0, 0), (28, 172, 0, 0)]
theorem da_cX5_slots_0 : fw dt_cX5_slots_0 0 cX5_slots.data.toList = true := by decide +kernel
theorem dX5_slots_0 : decode cX5_slots 0 = .ok (.aload_n 0, 1) := fo_42 (fw_get da_cX5_slots_0 0 rfl)
theorem dX5_slots_1 : decode cX5_slots 1 = .ok (.iconst 0, 1) := fo_3 (fw_get da_cX5_slots_0 1 rfl)
theorem dX5_slots_2 : decode cX5_slots 2 = .ok (.putfield 77, 3) := fo_181 (fw_get da_cX5_slots_0 2 rfl)
theorem dX5_slots_5 : decode cX5_slots 5 = .ok (.iload_n 1, 1) := fo_27 (fw_get da_cX5_slots_0 3 rfl)
theorem dX5_slots_6 : decode cX5_slots 6 = .ok (.iconst 1, 1) := fo_4 (fw_get da_cX5_slots_0 4 rfl)
theorem dX5_slots_7 : decode cX5_slots 7 = .ok (.bipush 6, 2) := fo_16 (fw_get da_cX5_slots_0 5 rfl) (by decide +kernel)
theorem dX5_slots_9 : decode cX5_slots 9 = .ok (.invokestatic 80, 3) := fo_184 (fw_get da_cX5_slots_0 6 rfl)
theorem dX5_slots_12 : decode cX5_slots 12 = .ok (.ifCond .ne 5, 3) := fo_154 (fw_get da_cX5_slots_0 7 rfl) (by decide +kernel)
theorem dX5_slots_15 : decode cX5_slots 15 = .ok (.iconst (-1), 1) := fo_2 (fw_get da_cX5_slots_0 8 rfl)
theorem dX5_slots_16 : decode cX5_slots 16 = .ok (.ireturn, 1) := fo_172 (fw_get da_cX5_slots_0 9 rfl)
theorem dX5_slots_17 : decode cX5_slots 17 = .ok (.aload_n 0, 1) := fo_42 (fw_get da_cX5_slots_0 10 rfl)
theorem dX5_slots_18 : decode cX5_slots 18 = .ok (.getfield 13, 3) := fo_180 (fw_get da_cX5_slots_0 11 rfl)
theorem dX5_slots_21 : decode cX5_slots 21 = .ok (.istore_n 2, 1) := fo_61 (fw_get da_cX5_slots_0 12 rfl)
theorem dX5_slots_22 : decode cX5_slots 22 = .ok (.aload_n 0, 1) := fo_42 (fw_get da_cX5_slots_0 13 rfl)
theorem dX5_slots_23 : decode cX5_slots 23 = .ok (.iload_n 1, 1) := fo_27 (fw_get da_cX5_slots_0 14 rfl)
theorem dX5_slots_24 : decode cX5_slots 24 = .ok (.putfield 13, 3) := fo_181 (fw_get da_cX5_slots_0 15 rfl)
theorem dX5_slots_27 : decode cX5_slots 27 = .ok (.iload_n 2, 1) := fo_28 (fw_get da_cX5_slots_0 16 rfl)
theorem dX5_slots_28 : decode cX5_slots 28 = .ok (.ireturn, 1) := fo_172 (fw_get da_cX5_slots_0 17 rfl)
set_option maxRecDepth 20000 in
theorem ggX5_insert_X5_within : GoodIn wsX5_insert wsX5_within := goodIn_r _ [7] rfl (by decide +kernel)
set_option maxRecDepth 20000 in
theorem gX5_insert_X5_within : GoodIn wsX5_insert (va_wsS RX5 80 yX5_within wsX5_within) := goodIn_app (goodIn_r _ [4, 5, 6] rfl (by decide +kernel)) ggX5_insert_X5_within
set_option maxRecDepth 20000 in
theorem ggX5_insert_X5_isValue : GoodIn wsX5_insert wsX5_isValue := goodIn_r _ [10, 4, 5, 6, 7] rfl (by decide +kernel)
set_option maxRecDepth 20000 in
theorem gX5_insert_X5_isValue : GoodIn wsX5_insert (va_wsS RX5 132 yX5_isValue wsX5_isValue) := goodIn_app (goodIn_r _ [8, 9, 6] rfl (by decide +kernel)) ggX5_insert_X5_isValue
def dt_cX5_insert_0 : List (Nat × Nat × Nat × Nat) := [(0, 42, 0, 0), (1, 3, 0, 0), (2, 181, 2, 77), (5, 27, 0, 0), (6, 3, 0, 0), (7, 42, 0, 0), (8, 180, 2, 84), (11, 184, 2, 80), (14, 153, 2, 20), (17, 28, 0, 0), (18, 184, 2, 132), (21, 153, 2, 13), (24, 42, 0, 0), (25, 180, 2, 84), (28, 17, 2, 160), (31, 160, 2, 5), (34, 2, 0, 0), (35, 172, 0, 0), (36, 42, 0, 0), (37, 180, 2, 84)]
theorem da_cX5_insert_0 : fw dt_cX5_insert_0 0 cX5_insert.data.toList = true := by decide +kernel
theorem dX5_insert_0 : decode cX5_insert 0 = .ok (.aload_n 0, 1) := fo_42 (fw_get da_cX5_insert_0 0 rfl)
theorem dX5_insert_1 : decode cX5_insert 1 = .ok (.iconst 0, 1) := fo_3 (fw_get da_cX5_insert_0 1 rfl)
theorem dX5_insert_2 : decode cX5_insert 2 = .ok (.putfield 77, 3) := fo_181 (fw_get da_cX5_insert_0 2 rfl)
theorem dX5_insert_5 : decode cX5_insert 5 = .ok (.iload_n 1, 1) := fo_27 (fw_get da_cX5_insert_0 3 rfl)
theorem dX5_insert_6 : decode cX5_insert 6 = .ok (.iconst 0, 1) := fo_3 (fw_get da_cX5_insert_0 4 rfl)
theorem dX5_insert_7 : decode cX5_insert 7 = .ok (.aload_n 0, 1) := fo_42 (fw_get da_cX5_insert_0 5 rfl)
theorem dX5_insert_8 : decode cX5_insert 8 = .ok (.getfield 84, 3) := fo_180 (fw_get da_cX5_insert_0 6 rfl)
theorem dX5_insert_11 : decode cX5_insert 11 = .ok (.invokestatic 80, 3) := fo_184 (fw_get da_cX5_insert_0 7 rfl)
theorem dX5_insert_14 : decode cX5_insert 14 = .ok (.ifCond .eq 20, 3) := fo_153 (fw_get da_cX5_insert_0 8 rfl) (by decide +kernel)
theorem dX5_insert_17 : decode cX5_insert 17 = .ok (.iload_n 2, 1) := fo_28 (fw_get da_cX5_insert_0 9 rfl)
theorem dX5_insert_18 : decode cX5_insert 18 = .ok (.invokestatic 132, 3) := fo_184 (fw_get da_cX5_insert_0 10 rfl)
theorem dX5_insert_21 : decode cX5_insert 21 = .ok (.ifCond .eq 13, 3) := fo_153 (fw_get da_cX5_insert_0 11 rfl) (by decide +kernel)
theorem dX5_insert_24 : decode cX5_insert 24 = .ok (.aload_n 0, 1) := fo_42 (fw_get da_cX5_insert_0 12 rfl)
theorem dX5_insert_25 : decode cX5_insert 25 = .ok (.getfield 84, 3) := fo_180 (fw_get da_cX5_insert_0 13 rfl)
theorem dX5_insert_28 : decode cX5_insert 28 = .ok (.sipush 160, 3) := fo_17 (fw_get da_cX5_insert_0 14 rfl) (by decide +kernel)
theorem dX5_insert_31 : decode cX5_insert 31 = .ok (.if_icmp .ne 5, 3) := fo_160 (fw_get da_cX5_insert_0 15 rfl) (by decide +kernel)
theorem dX5_insert_34 : decode cX5_insert 34 = .ok (.iconst (-1), 1) := fo_2 (fw_get da_cX5_insert_0 16 rfl)
theorem dX5_insert_35 : decode cX5_insert 35 = .ok (.ireturn, 1) := fo_172 (fw_get da_cX5_insert_0 17 rfl)
theorem dX5_insert_36 : decode cX5_insert 36 = .ok (.aload_n 0, 1) := fo_42 (fw_get da_cX5_insert_0 18 rfl)
theorem dX5_insert_37 : decode cX5_insert 37 = .ok (.getfield 84, 3) := fo_180 (fw_get da_cX5_insert_0 19 rfl)
def dt_cX5_insert_1 : List (Nat × Nat × Nat × Nat) := [(40, 62, 0, 0), (41, 29, 0, 0), (42, 27, 0, 0), (43, 164, 2, 23), (46, 42, 0, 0), (47, 180, 2, 7), (50, 29, 0, 0), (51, 42, 0, 0), (52, 180, 2, 7), (55, 29, 0, 0), (56, 4, 0, 0), (57, 100, 0, 0), (58, 46, 0, 0), (59, 79, 0, 0), (60, 132, 2, 1023), (63, 167, 2, 65514), (66, 42, 0, 0), (67, 180, 2, 7), (70, 27, 0, 0), (71, 28, 0, 0)]
theorem da_cX5_insert_1 : fw dt_cX5_insert_1 0 cX5_insert.data.toList = true := by decide +kernel
theorem dX5_insert_40 : decode cX5_insert 40 = .ok (.istore_n 3, 1) := fo_62 (fw_get da_cX5_insert_1 0 rfl)
theorem dX5_insert_41 : decode cX5_insert 41 = .ok (.iload_n 3, 1) := fo_29 (fw_get da_cX5_insert_1 1 rfl)
theorem dX5_insert_42 : decode cX5_insert 42 = .ok (.iload_n 1, 1) := fo_27 (fw_get da_cX5_insert_1 2 rfl)
theorem dX5_insert_43 : decode cX5_insert 43 = .ok (.if_icmp .le 23, 3) := fo_164 (fw_get da_cX5_insert_1 3 rfl) (by decide +kernel)
theorem dX5_insert_46 : decode cX5_insert 46 = .ok (.aload_n 0, 1) := fo_42 (fw_get da_cX5_insert_1 4 rfl)
theorem dX5_insert_47 : decode cX5_insert 47 = .ok (.getfield 7, 3) := fo_180 (fw_get da_cX5_insert_1 5 rfl)
theorem dX5_insert_50 : decode cX5_insert 50 = .ok (.iload_n 3, 1) := fo_29 (fw_get da_cX5_insert_1 6 rfl)
theorem dX5_insert_51 : decode cX5_insert 51 = .ok (.aload_n 0, 1) := fo_42 (fw_get da_cX5_insert_1 7 rfl)
theorem dX5_insert_52 : decode cX5_insert 52 = .ok (.getfield 7, 3) := fo_180 (fw_get da_cX5_insert_1 8 rfl)
theorem dX5_insert_55 : decode cX5_insert 55 = .ok (.iload_n 3, 1) := fo_29 (fw_get da_cX5_insert_1 9 rfl)
theorem dX5_insert_56 : decode cX5_insert 56 = .ok (.iconst 1, 1) := fo_4 (fw_get da_cX5_insert_1 10 rfl)
theorem dX5_insert_57 : decode cX5_insert 57 = .ok (.isub, 1) := fo_100 (fw_get da_cX5_insert_1 11 rfl)
theorem dX5_insert_58 : decode cX5_insert 58 = .ok (.iaload, 1) := fo_46 (fw_get da_cX5_insert_1 12 rfl)
theorem dX5_insert_59 : decode cX5_insert 59 = .ok (.iastore, 1) := fo_79 (fw_get da_cX5_insert_1 13 rfl)
theorem dX5_insert_60 : decode cX5_insert 60 = .ok (.iinc 3 (-1), 3) := fo_132 (fw_get da_cX5_insert_1 14 rfl) rfl (by decide +kernel)
theorem dX5_insert_63 : decode cX5_insert 63 = .ok (.goto (-22), 3) := fo_167 (fw_get da_cX5_insert_1 15 rfl) (by decide +kernel)
theorem dX5_insert_66 : decode cX5_insert 66 = .ok (.aload_n 0, 1) := fo_42 (fw_get da_cX5_insert_1 16 rfl)
theorem dX5_insert_67 : decode cX5_insert 67 = .ok (.getfield 7, 3) := fo_180 (fw_get da_cX5_insert_1 17 rfl)
theorem dX5_insert_70 : decode cX5_insert 70 = .ok (.iload_n 1, 1) := fo_27 (fw_get da_cX5_insert_1 18 rfl)
theorem dX5_insert_71 : decode cX5_insert 71 = .ok (.iload_n 2, 1) := fo_28 (fw_get da_cX5_insert_1 19 rfl)
def dt_cX5_insert_2 : List (Nat × Nat × Nat × Nat) := [(72, 79, 0, 0), (73, 42, 0, 0), (74, 89, 0, 0), (75, 180, 2, 84), (78, 4, 0, 0), (79, 96, 0, 0), (80, 181, 2, 84), (83, 42, 0, 0), (84, 180, 2, 84), (87, 172, 0, 0)]
theorem da_cX5_insert_2 : fw dt_cX5_insert_2 0 cX5_insert.data.toList = true := by decide +kernel
theorem dX5_insert_72 : decode cX5_insert 72 = .ok (.iastore, 1) := fo_79 (fw_get da_cX5_insert_2 0 rfl)
theorem dX5_insert_73 : decode cX5_insert 73 = .ok (.aload_n 0, 1) := fo_42 (fw_get da_cX5_insert_2 1 rfl)
theorem dX5_insert_74 : decode cX5_insert 74 = .ok (.dup, 1) := fo_89 (fw_get da_cX5_insert_2 2 rfl)
theorem dX5_insert_75 : decode cX5_insert 75 = .ok (.getfield 84, 3) := fo_180 (fw_get da_cX5_insert_2 3 rfl)
theorem dX5_insert_78 : decode cX5_insert 78 = .ok (.iconst 1, 1) := fo_4 (fw_get da_cX5_insert_2 4 rfl)
theorem dX5_insert_79 : decode cX5_insert 79 = .ok (.iadd, 1) := fo_96 (fw_get da_cX5_insert_2 5 rfl)
theorem dX5_insert_80 : decode cX5_insert 80 = .ok (.putfield 84, 3) := fo_181 (fw_get da_cX5_insert_2 6 rfl)
theorem dX5_insert_83 : decode cX5_insert 83 = .ok (.aload_n 0, 1) := fo_42 (fw_get da_cX5_insert_2 7 rfl)
theorem dX5_insert_84 : decode cX5_insert 84 = .ok (.getfield 84, 3) := fo_180 (fw_get da_cX5_insert_2 8 rfl)
theorem dX5_insert_87 : decode cX5_insert 87 = .ok (.ireturn, 1) := fo_172 (fw_get da_cX5_insert_2 9 rfl)
set_option maxRecDepth 20000 in
theorem ggX5_remove_X5_isPlace : GoodIn wsX5_remove wsX5_isPlace := goodIn_r _ [9, 4, 10, 11, 8, 12, 13, 14, 15, 16, 17, 18, 19, 20, 21, 22, 23, 24, 25, 26, 27, 28, 29, 30, 31, 32, 33, 34, 35, 36, 37, 38, 39, 40, 41, 42] rfl (by decide +kernel)
set_option maxRecDepth 20000 in
theorem gX5_remove_X5_isPlace : GoodIn wsX5_remove (wsV RX5 128 RX5 yX5_isPlace wsX5_isPlace) := goodIn_app (goodIn_r _ [5, 6, 7, 8] rfl (by decide +kernel)) ggX5_remove_X5_isPlace
def dt_cX5_remove_0 : List (Nat × Nat × Nat × Nat) := [(0, 42, 0, 0), (1, 3, 0, 0), (2, 181, 2, 77), (5, 42, 0, 0), (6, 27, 0, 0), (7, 182, 2, 128), (10, 154, 2, 6), (13, 18, 1, 148), (15, 172, 0, 0), (16, 42, 0, 0), (17, 180, 2, 7), (20, 27, 0, 0), (21, 46, 0, 0), (22, 61, 0, 0), (23, 42, 0, 0), (24, 89, 0, 0), (25, 180, 2, 84), (28, 4, 0, 0), (29, 100, 0, 0), (30, 181, 2, 84)]
theorem da_cX5_remove_0 : fw dt_cX5_remove_0 0 cX5_remove.data.toList = true := by decide +kernel
theorem dX5_remove_0 : decode cX5_remove 0 = .ok (.aload_n 0, 1) := fo_42 (fw_get da_cX5_remove_0 0 rfl)
theorem dX5_remove_1 : decode cX5_remove 1 = .ok (.iconst 0, 1) := fo_3 (fw_get da_cX5_remove_0 1 rfl)
theorem dX5_remove_2 : decode cX5_remove 2 = .ok (.putfield 77, 3) := fo_181 (fw_get da_cX5_remove_0 2 rfl)
theorem dX5_remove_5 : decode cX5_remove 5 = .ok (.aload_n 0, 1) := fo_42 (fw_get da_cX5_remove_0 3 rfl)
theorem dX5_remove_6 : decode cX5_remove 6 = .ok (.iload_n 1, 1) := fo_27 (fw_get da_cX5_remove_0 4 rfl)
theorem dX5_remove_7 : decode cX5_remove 7 = .ok (.invokevirtual 128, 3) := fo_182 (fw_get da_cX5_remove_0 5 rfl)
theorem dX5_remove_10 : decode cX5_remove 10 = .ok (.ifCond .ne 6, 3) := fo_154 (fw_get da_cX5_remove_0 6 rfl) (by decide +kernel)
theorem dX5_remove_13 : decode cX5_remove 13 = .ok (.ldc 148, 2) := fo_18 (fw_get da_cX5_remove_0 7 rfl)
theorem dX5_remove_15 : decode cX5_remove 15 = .ok (.ireturn, 1) := fo_172 (fw_get da_cX5_remove_0 8 rfl)
theorem dX5_remove_16 : decode cX5_remove 16 = .ok (.aload_n 0, 1) := fo_42 (fw_get da_cX5_remove_0 9 rfl)
theorem dX5_remove_17 : decode cX5_remove 17 = .ok (.getfield 7, 3) := fo_180 (fw_get da_cX5_remove_0 10 rfl)
theorem dX5_remove_20 : decode cX5_remove 20 = .ok (.iload_n 1, 1) := fo_27 (fw_get da_cX5_remove_0 11 rfl)
theorem dX5_remove_21 : decode cX5_remove 21 = .ok (.iaload, 1) := fo_46 (fw_get da_cX5_remove_0 12 rfl)
theorem dX5_remove_22 : decode cX5_remove 22 = .ok (.istore_n 2, 1) := fo_61 (fw_get da_cX5_remove_0 13 rfl)
theorem dX5_remove_23 : decode cX5_remove 23 = .ok (.aload_n 0, 1) := fo_42 (fw_get da_cX5_remove_0 14 rfl)
theorem dX5_remove_24 : decode cX5_remove 24 = .ok (.dup, 1) := fo_89 (fw_get da_cX5_remove_0 15 rfl)
theorem dX5_remove_25 : decode cX5_remove 25 = .ok (.getfield 84, 3) := fo_180 (fw_get da_cX5_remove_0 16 rfl)
theorem dX5_remove_28 : decode cX5_remove 28 = .ok (.iconst 1, 1) := fo_4 (fw_get da_cX5_remove_0 17 rfl)
theorem dX5_remove_29 : decode cX5_remove 29 = .ok (.isub, 1) := fo_100 (fw_get da_cX5_remove_0 18 rfl)
theorem dX5_remove_30 : decode cX5_remove 30 = .ok (.putfield 84, 3) := fo_181 (fw_get da_cX5_remove_0 19 rfl)
def dt_cX5_remove_1 : List (Nat × Nat × Nat × Nat) := [(33, 27, 0, 0), (34, 62, 0, 0), (35, 29, 0, 0), (36, 42, 0, 0), (37, 180, 2, 84), (40, 162, 2, 23), (43, 42, 0, 0), (44, 180, 2, 7), (47, 29, 0, 0), (48, 42, 0, 0), (49, 180, 2, 7), (52, 29, 0, 0), (53, 4, 0, 0), (54, 96, 0, 0), (55, 46, 0, 0), (56, 79, 0, 0), (57, 132, 2, 769), (60, 167, 2, 65511), (63, 28, 0, 0), (64, 172, 0, 0)]
theorem da_cX5_remove_1 : fw dt_cX5_remove_1 0 cX5_remove.data.toList = true := by decide +kernel
theorem dX5_remove_33 : decode cX5_remove 33 = .ok (.iload_n 1, 1) := fo_27 (fw_get da_cX5_remove_1 0 rfl)
theorem dX5_remove_34 : decode cX5_remove 34 = .ok (.istore_n 3, 1) := fo_62 (fw_get da_cX5_remove_1 1 rfl)
theorem dX5_remove_35 : decode cX5_remove 35 = .ok (.iload_n 3, 1) := fo_29 (fw_get da_cX5_remove_1 2 rfl)
theorem dX5_remove_36 : decode cX5_remove 36 = .ok (.aload_n 0, 1) := fo_42 (fw_get da_cX5_remove_1 3 rfl)
theorem dX5_remove_37 : decode cX5_remove 37 = .ok (.getfield 84, 3) := fo_180 (fw_get da_cX5_remove_1 4 rfl)
theorem dX5_remove_40 : decode cX5_remove 40 = .ok (.if_icmp .ge 23, 3) := fo_162 (fw_get da_cX5_remove_1 5 rfl) (by decide +kernel)
theorem dX5_remove_43 : decode cX5_remove 43 = .ok (.aload_n 0, 1) := fo_42 (fw_get da_cX5_remove_1 6 rfl)
theorem dX5_remove_44 : decode cX5_remove 44 = .ok (.getfield 7, 3) := fo_180 (fw_get da_cX5_remove_1 7 rfl)
theorem dX5_remove_47 : decode cX5_remove 47 = .ok (.iload_n 3, 1) := fo_29 (fw_get da_cX5_remove_1 8 rfl)
theorem dX5_remove_48 : decode cX5_remove 48 = .ok (.aload_n 0, 1) := fo_42 (fw_get da_cX5_remove_1 9 rfl)
theorem dX5_remove_49 : decode cX5_remove 49 = .ok (.getfield 7, 3) := fo_180 (fw_get da_cX5_remove_1 10 rfl)
theorem dX5_remove_52 : decode cX5_remove 52 = .ok (.iload_n 3, 1) := fo_29 (fw_get da_cX5_remove_1 11 rfl)
theorem dX5_remove_53 : decode cX5_remove 53 = .ok (.iconst 1, 1) := fo_4 (fw_get da_cX5_remove_1 12 rfl)
theorem dX5_remove_54 : decode cX5_remove 54 = .ok (.iadd, 1) := fo_96 (fw_get da_cX5_remove_1 13 rfl)
theorem dX5_remove_55 : decode cX5_remove 55 = .ok (.iaload, 1) := fo_46 (fw_get da_cX5_remove_1 14 rfl)
theorem dX5_remove_56 : decode cX5_remove 56 = .ok (.iastore, 1) := fo_79 (fw_get da_cX5_remove_1 15 rfl)
theorem dX5_remove_57 : decode cX5_remove 57 = .ok (.iinc 3 1, 3) := fo_132 (fw_get da_cX5_remove_1 16 rfl) rfl (by decide +kernel)
theorem dX5_remove_60 : decode cX5_remove 60 = .ok (.goto (-25), 3) := fo_167 (fw_get da_cX5_remove_1 17 rfl) (by decide +kernel)
theorem dX5_remove_63 : decode cX5_remove 63 = .ok (.iload_n 2, 1) := fo_28 (fw_get da_cX5_remove_1 18 rfl)
theorem dX5_remove_64 : decode cX5_remove 64 = .ok (.ireturn, 1) := fo_172 (fw_get da_cX5_remove_1 19 rfl)
set_option maxRecDepth 20000 in
theorem ggX5_at_X5_isPlace : GoodIn wsX5_at wsX5_isPlace := goodIn_r _ [7, 8, 9, 10, 6, 11, 12, 13, 14, 15, 16, 17, 18, 19, 20, 21, 22, 23, 24, 25, 26, 27, 28, 29, 30, 31, 32, 33, 34, 35, 36, 37, 38, 39, 40, 41] rfl (by decide +kernel)
set_option maxRecDepth 20000 in
theorem gX5_at_X5_isPlace : GoodIn wsX5_at (wsV RX5 128 RX5 yX5_isPlace wsX5_isPlace) := goodIn_app (goodIn_r _ [3, 4, 5, 6] rfl (by decide +kernel)) ggX5_at_X5_isPlace
def dt_cX5_at_0 : List (Nat × Nat × Nat × Nat) := [(0, 42, 0, 0), (1, 42, 0, 0), (2, 27, 0, 0), (3, 182, 2, 128), (6, 153, 2, 7), (9, 3, 0, 0), (10, 167, 2, 4), (13, 4, 0, 0), (14, 181, 2, 77), (17, 42, 0, 0), (18, 180, 2, 77), (21, 154, 2, 12), (24, 42, 0, 0), (25, 180, 2, 7), (28, 27, 0, 0), (29, 46, 0, 0), (30, 167, 2, 4), (33, 3, 0, 0), (34, 172, 0, 0)]
theorem da_cX5_at_0 : fw dt_cX5_at_0 0 cX5_at.data.toList = true := by decide +kernel
theorem dX5_at_0 : decode cX5_at 0 = .ok (.aload_n 0, 1) := fo_42 (fw_get da_cX5_at_0 0 rfl)
theorem dX5_at_1 : decode cX5_at 1 = .ok (.aload_n 0, 1) := fo_42 (fw_get da_cX5_at_0 1 rfl)
theorem dX5_at_2 : decode cX5_at 2 = .ok (.iload_n 1, 1) := fo_27 (fw_get da_cX5_at_0 2 rfl)
theorem dX5_at_3 : decode cX5_at 3 = .ok (.invokevirtual 128, 3) := fo_182 (fw_get da_cX5_at_0 3 rfl)
theorem dX5_at_6 : decode cX5_at 6 = .ok (.ifCond .eq 7, 3) := fo_153 (fw_get da_cX5_at_0 4 rfl) (by decide +kernel)
theorem dX5_at_9 : decode cX5_at 9 = .ok (.iconst 0, 1) := fo_3 (fw_get da_cX5_at_0 5 rfl)
theorem dX5_at_10 : decode cX5_at 10 = .ok (.goto 4, 3) := fo_167 (fw_get da_cX5_at_0 6 rfl) (by decide +kernel)
theorem dX5_at_13 : decode cX5_at 13 = .ok (.iconst 1, 1) := fo_4 (fw_get da_cX5_at_0 7 rfl)
theorem dX5_at_14 : decode cX5_at 14 = .ok (.putfield 77, 3) := fo_181 (fw_get da_cX5_at_0 8 rfl)
theorem dX5_at_17 : decode cX5_at 17 = .ok (.aload_n 0, 1) := fo_42 (fw_get da_cX5_at_0 9 rfl)
theorem dX5_at_18 : decode cX5_at 18 = .ok (.getfield 77, 3) := fo_180 (fw_get da_cX5_at_0 10 rfl)
theorem dX5_at_21 : decode cX5_at 21 = .ok (.ifCond .ne 12, 3) := fo_154 (fw_get da_cX5_at_0 11 rfl) (by decide +kernel)
theorem dX5_at_24 : decode cX5_at 24 = .ok (.aload_n 0, 1) := fo_42 (fw_get da_cX5_at_0 12 rfl)
theorem dX5_at_25 : decode cX5_at 25 = .ok (.getfield 7, 3) := fo_180 (fw_get da_cX5_at_0 13 rfl)
theorem dX5_at_28 : decode cX5_at 28 = .ok (.iload_n 1, 1) := fo_27 (fw_get da_cX5_at_0 14 rfl)
theorem dX5_at_29 : decode cX5_at 29 = .ok (.iaload, 1) := fo_46 (fw_get da_cX5_at_0 15 rfl)
theorem dX5_at_30 : decode cX5_at 30 = .ok (.goto 4, 3) := fo_167 (fw_get da_cX5_at_0 16 rfl) (by decide +kernel)
theorem dX5_at_33 : decode cX5_at 33 = .ok (.iconst 0, 1) := fo_3 (fw_get da_cX5_at_0 17 rfl)
theorem dX5_at_34 : decode cX5_at 34 = .ok (.ireturn, 1) := fo_172 (fw_get da_cX5_at_0 18 rfl)
set_option maxRecDepth 20000 in
theorem ggX5_count_X5_isValue : GoodIn wsX5_count wsX5_isValue := goodIn_r _ [5, 6, 7, 4, 8] rfl (by decide +kernel)
set_option maxRecDepth 20000 in
theorem gX5_count_X5_isValue : GoodIn wsX5_count (va_wsS RX5 132 yX5_isValue wsX5_isValue) := goodIn_app (goodIn_r _ [2, 3, 4] rfl (by decide +kernel)) ggX5_count_X5_isValue
set_option maxRecDepth 20000 in
theorem ggX5_count_X5_isRange : GoodIn wsX5_count wsX5_isRange := goodIn_r _ [12, 13, 19, 20, 21, 22, 23, 24, 25, 26, 27, 28, 29, 30, 31, 32, 33, 34, 35, 36, 37, 38, 39, 40, 41, 42, 43, 44, 45, 46, 47, 48] rfl (by decide +kernel)
set_option maxRecDepth 20000 in
theorem gX5_count_X5_isRange : GoodIn wsX5_count (wsV RX5 142 RX5 yX5_isRange wsX5_isRange) := goodIn_app (goodIn_r _ [9, 10, 11, 4] rfl (by decide +kernel)) ggX5_count_X5_isRange
set_option maxRecDepth 20000 in
theorem ggX5_count_X5_times : GoodIn wsX5_count wsX5_times := goodIn_r _ [17, 18, 19, 20, 21, 22, 23, 24, 25, 26, 27, 28, 29, 30, 31, 32, 33, 34, 35, 36, 37, 38, 39, 40, 41, 42, 43, 44, 45, 46, 47, 48] rfl (by decide +kernel)
set_option maxRecDepth 20000 in
theorem gX5_count_X5_times : GoodIn wsX5_count (wsV RX5 149 RX5 yX5_times wsX5_times) := goodIn_app (goodIn_r _ [14, 15, 16, 4] rfl (by decide +kernel)) ggX5_count_X5_times
def dt_cX5_count_0 : List (Nat × Nat × Nat × Nat) := [(0, 42, 0, 0), (1, 3, 0, 0), (2, 181, 2, 77), (5, 27, 0, 0), (6, 184, 2, 132), (9, 153, 2, 22), (12, 42, 0, 0), (13, 28, 0, 0), (14, 29, 0, 0), (15, 182, 2, 142), (18, 153, 2, 13), (21, 42, 0, 0), (22, 27, 0, 0), (23, 28, 0, 0), (24, 29, 0, 0), (25, 182, 2, 149), (28, 167, 2, 4), (31, 2, 0, 0), (32, 172, 0, 0)]
theorem da_cX5_count_0 : fw dt_cX5_count_0 0 cX5_count.data.toList = true := by decide +kernel
theorem dX5_count_0 : decode cX5_count 0 = .ok (.aload_n 0, 1) := fo_42 (fw_get da_cX5_count_0 0 rfl)
theorem dX5_count_1 : decode cX5_count 1 = .ok (.iconst 0, 1) := fo_3 (fw_get da_cX5_count_0 1 rfl)
theorem dX5_count_2 : decode cX5_count 2 = .ok (.putfield 77, 3) := fo_181 (fw_get da_cX5_count_0 2 rfl)
theorem dX5_count_5 : decode cX5_count 5 = .ok (.iload_n 1, 1) := fo_27 (fw_get da_cX5_count_0 3 rfl)
theorem dX5_count_6 : decode cX5_count 6 = .ok (.invokestatic 132, 3) := fo_184 (fw_get da_cX5_count_0 4 rfl)
theorem dX5_count_9 : decode cX5_count 9 = .ok (.ifCond .eq 22, 3) := fo_153 (fw_get da_cX5_count_0 5 rfl) (by decide +kernel)
theorem dX5_count_12 : decode cX5_count 12 = .ok (.aload_n 0, 1) := fo_42 (fw_get da_cX5_count_0 6 rfl)
theorem dX5_count_13 : decode cX5_count 13 = .ok (.iload_n 2, 1) := fo_28 (fw_get da_cX5_count_0 7 rfl)
theorem dX5_count_14 : decode cX5_count 14 = .ok (.iload_n 3, 1) := fo_29 (fw_get da_cX5_count_0 8 rfl)
theorem dX5_count_15 : decode cX5_count 15 = .ok (.invokevirtual 142, 3) := fo_182 (fw_get da_cX5_count_0 9 rfl)
theorem dX5_count_18 : decode cX5_count 18 = .ok (.ifCond .eq 13, 3) := fo_153 (fw_get da_cX5_count_0 10 rfl) (by decide +kernel)
theorem dX5_count_21 : decode cX5_count 21 = .ok (.aload_n 0, 1) := fo_42 (fw_get da_cX5_count_0 11 rfl)
theorem dX5_count_22 : decode cX5_count 22 = .ok (.iload_n 1, 1) := fo_27 (fw_get da_cX5_count_0 12 rfl)
theorem dX5_count_23 : decode cX5_count 23 = .ok (.iload_n 2, 1) := fo_28 (fw_get da_cX5_count_0 13 rfl)
theorem dX5_count_24 : decode cX5_count 24 = .ok (.iload_n 3, 1) := fo_29 (fw_get da_cX5_count_0 14 rfl)
theorem dX5_count_25 : decode cX5_count 25 = .ok (.invokevirtual 149, 3) := fo_182 (fw_get da_cX5_count_0 15 rfl)
theorem dX5_count_28 : decode cX5_count 28 = .ok (.goto 4, 3) := fo_167 (fw_get da_cX5_count_0 16 rfl) (by decide +kernel)
theorem dX5_count_31 : decode cX5_count 31 = .ok (.iconst (-1), 1) := fo_2 (fw_get da_cX5_count_0 17 rfl)
theorem dX5_count_32 : decode cX5_count 32 = .ok (.ireturn, 1) := fo_172 (fw_get da_cX5_count_0 18 rfl)
def dt_cX5_place_0 : List (Nat × Nat × Nat × Nat) := [(0, 42, 0, 0), (1, 3, 0, 0), (2, 181, 2, 77), (5, 28, 0, 0), (6, 62, 0, 0), (7, 3, 0, 0), (8, 54, 1, 4), (10, 21, 1, 4), (12, 42, 0, 0), (13, 180, 2, 84), (16, 162, 2, 37), (19, 28, 0, 0), (20, 155, 2, 33), (23, 42, 0, 0), (24, 180, 2, 7), (27, 21, 1, 4), (29, 46, 0, 0), (30, 27, 0, 0), (31, 159, 2, 6), (34, 167, 2, 13)]
theorem da_cX5_place_0 : fw dt_cX5_place_0 0 cX5_place.data.toList = true := by decide +kernel
theorem dX5_place_0 : decode cX5_place 0 = .ok (.aload_n 0, 1) := fo_42 (fw_get da_cX5_place_0 0 rfl)
theorem dX5_place_1 : decode cX5_place 1 = .ok (.iconst 0, 1) := fo_3 (fw_get da_cX5_place_0 1 rfl)
theorem dX5_place_2 : decode cX5_place 2 = .ok (.putfield 77, 3) := fo_181 (fw_get da_cX5_place_0 2 rfl)
theorem dX5_place_5 : decode cX5_place 5 = .ok (.iload_n 2, 1) := fo_28 (fw_get da_cX5_place_0 3 rfl)
theorem dX5_place_6 : decode cX5_place 6 = .ok (.istore_n 3, 1) := fo_62 (fw_get da_cX5_place_0 4 rfl)
theorem dX5_place_7 : decode cX5_place 7 = .ok (.iconst 0, 1) := fo_3 (fw_get da_cX5_place_0 5 rfl)
theorem dX5_place_8 : decode cX5_place 8 = .ok (.istore 4, 2) := fo_54 (fw_get da_cX5_place_0 6 rfl)
theorem dX5_place_10 : decode cX5_place 10 = .ok (.iload 4, 2) := fo_21 (fw_get da_cX5_place_0 7 rfl)
theorem dX5_place_12 : decode cX5_place 12 = .ok (.aload_n 0, 1) := fo_42 (fw_get da_cX5_place_0 8 rfl)
theorem dX5_place_13 : decode cX5_place 13 = .ok (.getfield 84, 3) := fo_180 (fw_get da_cX5_place_0 9 rfl)
theorem dX5_place_16 : decode cX5_place 16 = .ok (.if_icmp .ge 37, 3) := fo_162 (fw_get da_cX5_place_0 10 rfl) (by decide +kernel)
theorem dX5_place_19 : decode cX5_place 19 = .ok (.iload_n 2, 1) := fo_28 (fw_get da_cX5_place_0 11 rfl)
theorem dX5_place_20 : decode cX5_place 20 = .ok (.ifCond .lt 33, 3) := fo_155 (fw_get da_cX5_place_0 12 rfl) (by decide +kernel)
theorem dX5_place_23 : decode cX5_place 23 = .ok (.aload_n 0, 1) := fo_42 (fw_get da_cX5_place_0 13 rfl)
theorem dX5_place_24 : decode cX5_place 24 = .ok (.getfield 7, 3) := fo_180 (fw_get da_cX5_place_0 14 rfl)
theorem dX5_place_27 : decode cX5_place 27 = .ok (.iload 4, 2) := fo_21 (fw_get da_cX5_place_0 15 rfl)
theorem dX5_place_29 : decode cX5_place 29 = .ok (.iaload, 1) := fo_46 (fw_get da_cX5_place_0 16 rfl)
theorem dX5_place_30 : decode cX5_place 30 = .ok (.iload_n 1, 1) := fo_27 (fw_get da_cX5_place_0 17 rfl)
theorem dX5_place_31 : decode cX5_place 31 = .ok (.if_icmp .eq 6, 3) := fo_159 (fw_get da_cX5_place_0 18 rfl) (by decide +kernel)
theorem dX5_place_34 : decode cX5_place 34 = .ok (.goto 13, 3) := fo_167 (fw_get da_cX5_place_0 19 rfl) (by decide +kernel)
def dt_cX5_place_1 : List (Nat × Nat × Nat × Nat) := [(37, 29, 0, 0), (38, 154, 2, 6), (41, 21, 1, 4), (43, 172, 0, 0), (44, 132, 2, 1023), (47, 132, 2, 1025), (50, 167, 2, 65496), (53, 2, 0, 0), (54, 172, 0, 0)]
theorem da_cX5_place_1 : fw dt_cX5_place_1 0 cX5_place.data.toList = true := by decide +kernel
theorem dX5_place_37 : decode cX5_place 37 = .ok (.iload_n 3, 1) := fo_29 (fw_get da_cX5_place_1 0 rfl)
theorem dX5_place_38 : decode cX5_place 38 = .ok (.ifCond .ne 6, 3) := fo_154 (fw_get da_cX5_place_1 1 rfl) (by decide +kernel)
theorem dX5_place_41 : decode cX5_place 41 = .ok (.iload 4, 2) := fo_21 (fw_get da_cX5_place_1 2 rfl)
theorem dX5_place_43 : decode cX5_place 43 = .ok (.ireturn, 1) := fo_172 (fw_get da_cX5_place_1 3 rfl)
theorem dX5_place_44 : decode cX5_place 44 = .ok (.iinc 3 (-1), 3) := fo_132 (fw_get da_cX5_place_1 4 rfl) rfl (by decide +kernel)
theorem dX5_place_47 : decode cX5_place 47 = .ok (.iinc 4 1, 3) := fo_132 (fw_get da_cX5_place_1 5 rfl) rfl (by decide +kernel)
theorem dX5_place_50 : decode cX5_place 50 = .ok (.goto (-40), 3) := fo_167 (fw_get da_cX5_place_1 6 rfl) (by decide +kernel)
theorem dX5_place_53 : decode cX5_place 53 = .ok (.iconst (-1), 1) := fo_2 (fw_get da_cX5_place_1 7 rfl)
theorem dX5_place_54 : decode cX5_place 54 = .ok (.ireturn, 1) := fo_172 (fw_get da_cX5_place_1 8 rfl)
set_option maxRecDepth 20000 in
theorem ggX5_values_X5_times : GoodIn wsX5_values wsX5_times := goodIn_r _ [8, 3, 9, 10, 11, 12, 13, 14, 15, 16, 17, 18, 19, 20, 21, 22, 23, 24, 25, 26, 27, 28, 29, 30, 31, 32, 33, 34, 35, 36, 37, 38] rfl (by decide +kernel)
set_option maxRecDepth 20000 in
theorem gX5_values_X5_times : GoodIn wsX5_values (wsV RX5 149 RX5 yX5_times wsX5_times) := goodIn_app (goodIn_r _ [4, 5, 6, 7] rfl (by decide +kernel)) ggX5_values_X5_times
def dt_cX5_values_0 : List (Nat × Nat × Nat × Nat) := [(0, 42, 0, 0), (1, 3, 0, 0), (2, 181, 2, 77), (5, 3, 0, 0), (6, 60, 0, 0), (7, 3, 0, 0), (8, 61, 0, 0), (9, 28, 0, 0), (10, 42, 0, 0), (11, 180, 2, 84), (14, 162, 2, 27), (17, 42, 0, 0), (18, 42, 0, 0), (19, 180, 2, 7), (22, 28, 0, 0), (23, 46, 0, 0), (24, 3, 0, 0), (25, 28, 0, 0), (26, 182, 2, 149), (29, 154, 2, 6)]
theorem da_cX5_values_0 : fw dt_cX5_values_0 0 cX5_values.data.toList = true := by decide +kernel
theorem dX5_values_0 : decode cX5_values 0 = .ok (.aload_n 0, 1) := fo_42 (fw_get da_cX5_values_0 0 rfl)
theorem dX5_values_1 : decode cX5_values 1 = .ok (.iconst 0, 1) := fo_3 (fw_get da_cX5_values_0 1 rfl)
theorem dX5_values_2 : decode cX5_values 2 = .ok (.putfield 77, 3) := fo_181 (fw_get da_cX5_values_0 2 rfl)
theorem dX5_values_5 : decode cX5_values 5 = .ok (.iconst 0, 1) := fo_3 (fw_get da_cX5_values_0 3 rfl)
theorem dX5_values_6 : decode cX5_values 6 = .ok (.istore_n 1, 1) := fo_60 (fw_get da_cX5_values_0 4 rfl)
theorem dX5_values_7 : decode cX5_values 7 = .ok (.iconst 0, 1) := fo_3 (fw_get da_cX5_values_0 5 rfl)
theorem dX5_values_8 : decode cX5_values 8 = .ok (.istore_n 2, 1) := fo_61 (fw_get da_cX5_values_0 6 rfl)
theorem dX5_values_9 : decode cX5_values 9 = .ok (.iload_n 2, 1) := fo_28 (fw_get da_cX5_values_0 7 rfl)
theorem dX5_values_10 : decode cX5_values 10 = .ok (.aload_n 0, 1) := fo_42 (fw_get da_cX5_values_0 8 rfl)
theorem dX5_values_11 : decode cX5_values 11 = .ok (.getfield 84, 3) := fo_180 (fw_get da_cX5_values_0 9 rfl)
theorem dX5_values_14 : decode cX5_values 14 = .ok (.if_icmp .ge 27, 3) := fo_162 (fw_get da_cX5_values_0 10 rfl) (by decide +kernel)
theorem dX5_values_17 : decode cX5_values 17 = .ok (.aload_n 0, 1) := fo_42 (fw_get da_cX5_values_0 11 rfl)
theorem dX5_values_18 : decode cX5_values 18 = .ok (.aload_n 0, 1) := fo_42 (fw_get da_cX5_values_0 12 rfl)
theorem dX5_values_19 : decode cX5_values 19 = .ok (.getfield 7, 3) := fo_180 (fw_get da_cX5_values_0 13 rfl)
theorem dX5_values_22 : decode cX5_values 22 = .ok (.iload_n 2, 1) := fo_28 (fw_get da_cX5_values_0 14 rfl)
theorem dX5_values_23 : decode cX5_values 23 = .ok (.iaload, 1) := fo_46 (fw_get da_cX5_values_0 15 rfl)
theorem dX5_values_24 : decode cX5_values 24 = .ok (.iconst 0, 1) := fo_3 (fw_get da_cX5_values_0 16 rfl)
theorem dX5_values_25 : decode cX5_values 25 = .ok (.iload_n 2, 1) := fo_28 (fw_get da_cX5_values_0 17 rfl)
theorem dX5_values_26 : decode cX5_values 26 = .ok (.invokevirtual 149, 3) := fo_182 (fw_get da_cX5_values_0 18 rfl)
theorem dX5_values_29 : decode cX5_values 29 = .ok (.ifCond .ne 6, 3) := fo_154 (fw_get da_cX5_values_0 19 rfl) (by decide +kernel)
def dt_cX5_values_1 : List (Nat × Nat × Nat × Nat) := [(32, 132, 2, 257), (35, 132, 2, 513), (38, 167, 2, 65507), (41, 27, 0, 0), (42, 172, 0, 0)]
theorem da_cX5_values_1 : fw dt_cX5_values_1 0 cX5_values.data.toList = true := by decide +kernel
theorem dX5_values_32 : decode cX5_values 32 = .ok (.iinc 1 1, 3) := fo_132 (fw_get da_cX5_values_1 0 rfl) rfl (by decide +kernel)
theorem dX5_values_35 : decode cX5_values 35 = .ok (.iinc 2 1, 3) := fo_132 (fw_get da_cX5_values_1 1 rfl) rfl (by decide +kernel)
theorem dX5_values_38 : decode cX5_values 38 = .ok (.goto (-29), 3) := fo_167 (fw_get da_cX5_values_1 2 rfl) (by decide +kernel)
theorem dX5_values_41 : decode cX5_values 41 = .ok (.iload_n 1, 1) := fo_27 (fw_get da_cX5_values_1 3 rfl)
theorem dX5_values_42 : decode cX5_values 42 = .ok (.ireturn, 1) := fo_172 (fw_get da_cX5_values_1 4 rfl)
def dt_cX5_isEnough_0 : List (Nat × Nat × Nat × Nat) := [(0, 27, 0, 0), (1, 42, 0, 0), (2, 180, 2, 13), (5, 4, 0, 0), (6, 96, 0, 0), (7, 104, 0, 0), (8, 28, 0, 0), (9, 161, 2, 7), (12, 4, 0, 0), (13, 167, 2, 4), (16, 3, 0, 0), (17, 172, 0, 0)]
theorem da_cX5_isEnough_0 : fw dt_cX5_isEnough_0 0 cX5_isEnough.data.toList = true := by decide +kernel
theorem dX5_isEnough_0 : decode cX5_isEnough 0 = .ok (.iload_n 1, 1) := fo_27 (fw_get da_cX5_isEnough_0 0 rfl)
theorem dX5_isEnough_1 : decode cX5_isEnough 1 = .ok (.aload_n 0, 1) := fo_42 (fw_get da_cX5_isEnough_0 1 rfl)
theorem dX5_isEnough_2 : decode cX5_isEnough 2 = .ok (.getfield 13, 3) := fo_180 (fw_get da_cX5_isEnough_0 2 rfl)
theorem dX5_isEnough_5 : decode cX5_isEnough 5 = .ok (.iconst 1, 1) := fo_4 (fw_get da_cX5_isEnough_0 3 rfl)
theorem dX5_isEnough_6 : decode cX5_isEnough 6 = .ok (.iadd, 1) := fo_96 (fw_get da_cX5_isEnough_0 4 rfl)
theorem dX5_isEnough_7 : decode cX5_isEnough 7 = .ok (.imul, 1) := fo_104 (fw_get da_cX5_isEnough_0 5 rfl)
theorem dX5_isEnough_8 : decode cX5_isEnough 8 = .ok (.iload_n 2, 1) := fo_28 (fw_get da_cX5_isEnough_0 6 rfl)
theorem dX5_isEnough_9 : decode cX5_isEnough 9 = .ok (.if_icmp .lt 7, 3) := fo_161 (fw_get da_cX5_isEnough_0 7 rfl) (by decide +kernel)
theorem dX5_isEnough_12 : decode cX5_isEnough 12 = .ok (.iconst 1, 1) := fo_4 (fw_get da_cX5_isEnough_0 8 rfl)
theorem dX5_isEnough_13 : decode cX5_isEnough 13 = .ok (.goto 4, 3) := fo_167 (fw_get da_cX5_isEnough_0 9 rfl) (by decide +kernel)
theorem dX5_isEnough_16 : decode cX5_isEnough 16 = .ok (.iconst 0, 1) := fo_3 (fw_get da_cX5_isEnough_0 10 rfl)
theorem dX5_isEnough_17 : decode cX5_isEnough 17 = .ok (.ireturn, 1) := fo_172 (fw_get da_cX5_isEnough_0 11 rfl)
set_option maxRecDepth 20000 in
theorem ggX5_majorityOf_X5_times : GoodIn wsX5_majorityOf wsX5_times := goodIn_r _ [7, 1, 8, 9, 10, 11, 12, 13, 14, 15, 16, 17, 18, 19, 20, 21, 22, 23, 24, 25, 26, 27, 28, 29, 30, 31, 32, 33, 34, 35, 36, 37] rfl (by decide +kernel)
set_option maxRecDepth 20000 in
theorem gX5_majorityOf_X5_times : GoodIn wsX5_majorityOf (wsV RX5 149 RX5 yX5_times wsX5_times) := goodIn_app (goodIn_r _ [3, 4, 5, 6] rfl (by decide +kernel)) ggX5_majorityOf_X5_times
def dt_cX5_majorityOf_0 : List (Nat × Nat × Nat × Nat) := [(0, 27, 0, 0), (1, 62, 0, 0), (2, 29, 0, 0), (3, 28, 0, 0), (4, 162, 2, 36), (7, 5, 0, 0), (8, 42, 0, 0), (9, 42, 0, 0), (10, 180, 2, 7), (13, 29, 0, 0), (14, 46, 0, 0), (15, 27, 0, 0), (16, 28, 0, 0), (17, 182, 2, 149), (20, 104, 0, 0), (21, 28, 0, 0), (22, 27, 0, 0), (23, 100, 0, 0), (24, 164, 2, 10), (27, 42, 0, 0)]
theorem da_cX5_majorityOf_0 : fw dt_cX5_majorityOf_0 0 cX5_majorityOf.data.toList = true := by decide +kernel
theorem dX5_majorityOf_0 : decode cX5_majorityOf 0 = .ok (.iload_n 1, 1) := fo_27 (fw_get da_cX5_majorityOf_0 0 rfl)
theorem dX5_majorityOf_1 : decode cX5_majorityOf 1 = .ok (.istore_n 3, 1) := fo_62 (fw_get da_cX5_majorityOf_0 1 rfl)
theorem dX5_majorityOf_2 : decode cX5_majorityOf 2 = .ok (.iload_n 3, 1) := fo_29 (fw_get da_cX5_majorityOf_0 2 rfl)
theorem dX5_majorityOf_3 : decode cX5_majorityOf 3 = .ok (.iload_n 2, 1) := fo_28 (fw_get da_cX5_majorityOf_0 3 rfl)
theorem dX5_majorityOf_4 : decode cX5_majorityOf 4 = .ok (.if_icmp .ge 36, 3) := fo_162 (fw_get da_cX5_majorityOf_0 4 rfl) (by decide +kernel)
theorem dX5_majorityOf_7 : decode cX5_majorityOf 7 = .ok (.iconst 2, 1) := fo_5 (fw_get da_cX5_majorityOf_0 5 rfl)
theorem dX5_majorityOf_8 : decode cX5_majorityOf 8 = .ok (.aload_n 0, 1) := fo_42 (fw_get da_cX5_majorityOf_0 6 rfl)
theorem dX5_majorityOf_9 : decode cX5_majorityOf 9 = .ok (.aload_n 0, 1) := fo_42 (fw_get da_cX5_majorityOf_0 7 rfl)
theorem dX5_majorityOf_10 : decode cX5_majorityOf 10 = .ok (.getfield 7, 3) := fo_180 (fw_get da_cX5_majorityOf_0 8 rfl)
theorem dX5_majorityOf_13 : decode cX5_majorityOf 13 = .ok (.iload_n 3, 1) := fo_29 (fw_get da_cX5_majorityOf_0 9 rfl)
theorem dX5_majorityOf_14 : decode cX5_majorityOf 14 = .ok (.iaload, 1) := fo_46 (fw_get da_cX5_majorityOf_0 10 rfl)
theorem dX5_majorityOf_15 : decode cX5_majorityOf 15 = .ok (.iload_n 1, 1) := fo_27 (fw_get da_cX5_majorityOf_0 11 rfl)
theorem dX5_majorityOf_16 : decode cX5_majorityOf 16 = .ok (.iload_n 2, 1) := fo_28 (fw_get da_cX5_majorityOf_0 12 rfl)
theorem dX5_majorityOf_17 : decode cX5_majorityOf 17 = .ok (.invokevirtual 149, 3) := fo_182 (fw_get da_cX5_majorityOf_0 13 rfl)
theorem dX5_majorityOf_20 : decode cX5_majorityOf 20 = .ok (.imul, 1) := fo_104 (fw_get da_cX5_majorityOf_0 14 rfl)
theorem dX5_majorityOf_21 : decode cX5_majorityOf 21 = .ok (.iload_n 2, 1) := fo_28 (fw_get da_cX5_majorityOf_0 15 rfl)
theorem dX5_majorityOf_22 : decode cX5_majorityOf 22 = .ok (.iload_n 1, 1) := fo_27 (fw_get da_cX5_majorityOf_0 16 rfl)
theorem dX5_majorityOf_23 : decode cX5_majorityOf 23 = .ok (.isub, 1) := fo_100 (fw_get da_cX5_majorityOf_0 17 rfl)
theorem dX5_majorityOf_24 : decode cX5_majorityOf 24 = .ok (.if_icmp .le 10, 3) := fo_164 (fw_get da_cX5_majorityOf_0 18 rfl) (by decide +kernel)
theorem dX5_majorityOf_27 : decode cX5_majorityOf 27 = .ok (.aload_n 0, 1) := fo_42 (fw_get da_cX5_majorityOf_0 19 rfl)
def dt_cX5_majorityOf_1 : List (Nat × Nat × Nat × Nat) := [(28, 180, 2, 7), (31, 29, 0, 0), (32, 46, 0, 0), (33, 172, 0, 0), (34, 132, 2, 769), (37, 167, 2, 65501), (40, 18, 1, 148), (42, 172, 0, 0)]
theorem da_cX5_majorityOf_1 : fw dt_cX5_majorityOf_1 0 cX5_majorityOf.data.toList = true := by decide +kernel
theorem dX5_majorityOf_28 : decode cX5_majorityOf 28 = .ok (.getfield 7, 3) := fo_180 (fw_get da_cX5_majorityOf_1 0 rfl)
theorem dX5_majorityOf_31 : decode cX5_majorityOf 31 = .ok (.iload_n 3, 1) := fo_29 (fw_get da_cX5_majorityOf_1 1 rfl)
theorem dX5_majorityOf_32 : decode cX5_majorityOf 32 = .ok (.iaload, 1) := fo_46 (fw_get da_cX5_majorityOf_1 2 rfl)
theorem dX5_majorityOf_33 : decode cX5_majorityOf 33 = .ok (.ireturn, 1) := fo_172 (fw_get da_cX5_majorityOf_1 3 rfl)
theorem dX5_majorityOf_34 : decode cX5_majorityOf 34 = .ok (.iinc 3 1, 3) := fo_132 (fw_get da_cX5_majorityOf_1 4 rfl) rfl (by decide +kernel)
theorem dX5_majorityOf_37 : decode cX5_majorityOf 37 = .ok (.goto (-35), 3) := fo_167 (fw_get da_cX5_majorityOf_1 5 rfl) (by decide +kernel)
theorem dX5_majorityOf_40 : decode cX5_majorityOf 40 = .ok (.ldc 148, 2) := fo_18 (fw_get da_cX5_majorityOf_1 6 rfl)
theorem dX5_majorityOf_42 : decode cX5_majorityOf 42 = .ok (.ireturn, 1) := fo_172 (fw_get da_cX5_majorityOf_1 7 rfl)
set_option maxRecDepth 20000 in
theorem ggX5_majority_X5_isRange : GoodIn wsX5_majority wsX5_isRange := goodIn_r _ [7, 8, 18, 19, 20, 21, 22, 23, 24, 25, 26, 27, 28, 29, 30, 31, 32, 33, 34, 35, 36, 37, 38, 39, 40, 41, 42, 43, 44, 45, 46, 47] rfl (by decide +kernel)
set_option maxRecDepth 20000 in
theorem gX5_majority_X5_isRange : GoodIn wsX5_majority (wsV RX5 142 RX5 yX5_isRange wsX5_isRange) := goodIn_app (goodIn_r _ [3, 4, 5, 6] rfl (by decide +kernel)) ggX5_majority_X5_isRange
set_option maxRecDepth 20000 in
theorem ggX5_majority_X5_majorityOf : GoodIn wsX5_majority wsX5_majorityOf := goodIn_r _ [12, 13, 2, 14, 15, 16, 6, 17, 18, 19, 20, 21, 22, 23, 24, 25, 26, 27, 28, 29, 30, 31, 32, 33, 34, 35, 36, 37, 38, 39, 40, 41, 42, 43, 44, 45, 46, 47] rfl (by decide +kernel)
set_option maxRecDepth 20000 in
theorem gX5_majority_X5_majorityOf : GoodIn wsX5_majority (wsV RX5 194 RX5 yX5_majorityOf wsX5_majorityOf) := goodIn_app (goodIn_r _ [9, 10, 11, 6] rfl (by decide +kernel)) ggX5_majority_X5_majorityOf
def dt_cX5_majority_0 : List (Nat × Nat × Nat × Nat) := [(0, 42, 0, 0), (1, 3, 0, 0), (2, 181, 2, 77), (5, 42, 0, 0), (6, 27, 0, 0), (7, 28, 0, 0), (8, 182, 2, 142), (11, 153, 2, 12), (14, 42, 0, 0), (15, 27, 0, 0), (16, 28, 0, 0), (17, 182, 2, 194), (20, 167, 2, 5), (23, 18, 1, 148), (25, 172, 0, 0)]
theorem da_cX5_majority_0 : fw dt_cX5_majority_0 0 cX5_majority.data.toList = true := by decide +kernel
theorem dX5_majority_0 : decode cX5_majority 0 = .ok (.aload_n 0, 1) := fo_42 (fw_get da_cX5_majority_0 0 rfl)
theorem dX5_majority_1 : decode cX5_majority 1 = .ok (.iconst 0, 1) := fo_3 (fw_get da_cX5_majority_0 1 rfl)
theorem dX5_majority_2 : decode cX5_majority 2 = .ok (.putfield 77, 3) := fo_181 (fw_get da_cX5_majority_0 2 rfl)
theorem dX5_majority_5 : decode cX5_majority 5 = .ok (.aload_n 0, 1) := fo_42 (fw_get da_cX5_majority_0 3 rfl)
theorem dX5_majority_6 : decode cX5_majority 6 = .ok (.iload_n 1, 1) := fo_27 (fw_get da_cX5_majority_0 4 rfl)
theorem dX5_majority_7 : decode cX5_majority 7 = .ok (.iload_n 2, 1) := fo_28 (fw_get da_cX5_majority_0 5 rfl)
theorem dX5_majority_8 : decode cX5_majority 8 = .ok (.invokevirtual 142, 3) := fo_182 (fw_get da_cX5_majority_0 6 rfl)
theorem dX5_majority_11 : decode cX5_majority 11 = .ok (.ifCond .eq 12, 3) := fo_153 (fw_get da_cX5_majority_0 7 rfl) (by decide +kernel)
theorem dX5_majority_14 : decode cX5_majority 14 = .ok (.aload_n 0, 1) := fo_42 (fw_get da_cX5_majority_0 8 rfl)
theorem dX5_majority_15 : decode cX5_majority 15 = .ok (.iload_n 1, 1) := fo_27 (fw_get da_cX5_majority_0 9 rfl)
theorem dX5_majority_16 : decode cX5_majority 16 = .ok (.iload_n 2, 1) := fo_28 (fw_get da_cX5_majority_0 10 rfl)
theorem dX5_majority_17 : decode cX5_majority 17 = .ok (.invokevirtual 194, 3) := fo_182 (fw_get da_cX5_majority_0 11 rfl)
theorem dX5_majority_20 : decode cX5_majority 20 = .ok (.goto 5, 3) := fo_167 (fw_get da_cX5_majority_0 12 rfl) (by decide +kernel)
theorem dX5_majority_23 : decode cX5_majority 23 = .ok (.ldc 148, 2) := fo_18 (fw_get da_cX5_majority_0 13 rfl)
theorem dX5_majority_25 : decode cX5_majority 25 = .ok (.ireturn, 1) := fo_172 (fw_get da_cX5_majority_0 14 rfl)
set_option maxRecDepth 20000 in
theorem ggX5_margin_X5_isValue : GoodIn wsX5_margin wsX5_isValue := goodIn_r _ [6, 7, 8, 5, 9] rfl (by decide +kernel)
set_option maxRecDepth 20000 in
theorem gX5_margin_X5_isValue : GoodIn wsX5_margin (va_wsS RX5 132 yX5_isValue wsX5_isValue) := goodIn_app (goodIn_r _ [3, 4, 5] rfl (by decide +kernel)) ggX5_margin_X5_isValue
set_option maxRecDepth 20000 in
theorem ggX5_margin_X5_isRange : GoodIn wsX5_margin wsX5_isRange := goodIn_r _ [13, 14, 20, 21, 22, 23, 24, 25, 26, 27, 28, 29, 30, 31, 32, 33, 34, 35, 36, 37, 38, 39, 40, 41, 42, 43, 44, 45, 46, 47, 48, 49] rfl (by decide +kernel)
set_option maxRecDepth 20000 in
theorem gX5_margin_X5_isRange : GoodIn wsX5_margin (wsV RX5 142 RX5 yX5_isRange wsX5_isRange) := goodIn_app (goodIn_r _ [10, 11, 12, 5] rfl (by decide +kernel)) ggX5_margin_X5_isRange
set_option maxRecDepth 20000 in
theorem ggX5_margin_X5_times : GoodIn wsX5_margin wsX5_times := goodIn_r _ [18, 19, 20, 21, 22, 23, 24, 25, 26, 27, 28, 29, 30, 31, 32, 33, 34, 35, 36, 37, 38, 39, 40, 41, 42, 43, 44, 45, 46, 47, 48, 49] rfl (by decide +kernel)
set_option maxRecDepth 20000 in
theorem gX5_margin_X5_times : GoodIn wsX5_margin (wsV RX5 149 RX5 yX5_times wsX5_times) := goodIn_app (goodIn_r _ [15, 16, 17, 5] rfl (by decide +kernel)) ggX5_margin_X5_times
def dt_cX5_margin_0 : List (Nat × Nat × Nat × Nat) := [(0, 42, 0, 0), (1, 3, 0, 0), (2, 181, 2, 77), (5, 27, 0, 0), (6, 184, 2, 132), (9, 153, 2, 28), (12, 42, 0, 0), (13, 28, 0, 0), (14, 29, 0, 0), (15, 182, 2, 142), (18, 153, 2, 19), (21, 5, 0, 0), (22, 42, 0, 0), (23, 27, 0, 0), (24, 28, 0, 0), (25, 29, 0, 0), (26, 182, 2, 149), (29, 104, 0, 0), (30, 29, 0, 0), (31, 28, 0, 0)]
theorem da_cX5_margin_0 : fw dt_cX5_margin_0 0 cX5_margin.data.toList = true := by decide +kernel
theorem dX5_margin_0 : decode cX5_margin 0 = .ok (.aload_n 0, 1) := fo_42 (fw_get da_cX5_margin_0 0 rfl)
theorem dX5_margin_1 : decode cX5_margin 1 = .ok (.iconst 0, 1) := fo_3 (fw_get da_cX5_margin_0 1 rfl)
theorem dX5_margin_2 : decode cX5_margin 2 = .ok (.putfield 77, 3) := fo_181 (fw_get da_cX5_margin_0 2 rfl)
theorem dX5_margin_5 : decode cX5_margin 5 = .ok (.iload_n 1, 1) := fo_27 (fw_get da_cX5_margin_0 3 rfl)
theorem dX5_margin_6 : decode cX5_margin 6 = .ok (.invokestatic 132, 3) := fo_184 (fw_get da_cX5_margin_0 4 rfl)
theorem dX5_margin_9 : decode cX5_margin 9 = .ok (.ifCond .eq 28, 3) := fo_153 (fw_get da_cX5_margin_0 5 rfl) (by decide +kernel)
theorem dX5_margin_12 : decode cX5_margin 12 = .ok (.aload_n 0, 1) := fo_42 (fw_get da_cX5_margin_0 6 rfl)
theorem dX5_margin_13 : decode cX5_margin 13 = .ok (.iload_n 2, 1) := fo_28 (fw_get da_cX5_margin_0 7 rfl)
theorem dX5_margin_14 : decode cX5_margin 14 = .ok (.iload_n 3, 1) := fo_29 (fw_get da_cX5_margin_0 8 rfl)
theorem dX5_margin_15 : decode cX5_margin 15 = .ok (.invokevirtual 142, 3) := fo_182 (fw_get da_cX5_margin_0 9 rfl)
theorem dX5_margin_18 : decode cX5_margin 18 = .ok (.ifCond .eq 19, 3) := fo_153 (fw_get da_cX5_margin_0 10 rfl) (by decide +kernel)
theorem dX5_margin_21 : decode cX5_margin 21 = .ok (.iconst 2, 1) := fo_5 (fw_get da_cX5_margin_0 11 rfl)
theorem dX5_margin_22 : decode cX5_margin 22 = .ok (.aload_n 0, 1) := fo_42 (fw_get da_cX5_margin_0 12 rfl)
theorem dX5_margin_23 : decode cX5_margin 23 = .ok (.iload_n 1, 1) := fo_27 (fw_get da_cX5_margin_0 13 rfl)
theorem dX5_margin_24 : decode cX5_margin 24 = .ok (.iload_n 2, 1) := fo_28 (fw_get da_cX5_margin_0 14 rfl)
theorem dX5_margin_25 : decode cX5_margin 25 = .ok (.iload_n 3, 1) := fo_29 (fw_get da_cX5_margin_0 15 rfl)
theorem dX5_margin_26 : decode cX5_margin 26 = .ok (.invokevirtual 149, 3) := fo_182 (fw_get da_cX5_margin_0 16 rfl)
theorem dX5_margin_29 : decode cX5_margin 29 = .ok (.imul, 1) := fo_104 (fw_get da_cX5_margin_0 17 rfl)
theorem dX5_margin_30 : decode cX5_margin 30 = .ok (.iload_n 3, 1) := fo_29 (fw_get da_cX5_margin_0 18 rfl)
theorem dX5_margin_31 : decode cX5_margin 31 = .ok (.iload_n 2, 1) := fo_28 (fw_get da_cX5_margin_0 19 rfl)
def dt_cX5_margin_1 : List (Nat × Nat × Nat × Nat) := [(32, 100, 0, 0), (33, 100, 0, 0), (34, 167, 2, 5), (37, 18, 1, 148), (39, 172, 0, 0)]
theorem da_cX5_margin_1 : fw dt_cX5_margin_1 0 cX5_margin.data.toList = true := by decide +kernel
theorem dX5_margin_32 : decode cX5_margin 32 = .ok (.isub, 1) := fo_100 (fw_get da_cX5_margin_1 0 rfl)
theorem dX5_margin_33 : decode cX5_margin 33 = .ok (.isub, 1) := fo_100 (fw_get da_cX5_margin_1 1 rfl)
theorem dX5_margin_34 : decode cX5_margin 34 = .ok (.goto 5, 3) := fo_167 (fw_get da_cX5_margin_1 2 rfl) (by decide +kernel)
theorem dX5_margin_37 : decode cX5_margin 37 = .ok (.ldc 148, 2) := fo_18 (fw_get da_cX5_margin_1 3 rfl)
theorem dX5_margin_39 : decode cX5_margin 39 = .ok (.ireturn, 1) := fo_172 (fw_get da_cX5_margin_1 4 rfl)
set_option maxRecDepth 20000 in
theorem ggX5_longest_X5_isValue : GoodIn wsX5_longest wsX5_isValue := goodIn_r _ [7, 8, 9, 6, 10] rfl (by decide +kernel)
set_option maxRecDepth 20000 in
theorem gX5_longest_X5_isValue : GoodIn wsX5_longest (va_wsS RX5 132 yX5_isValue wsX5_isValue) := goodIn_app (goodIn_r _ [4, 5, 6] rfl (by decide +kernel)) ggX5_longest_X5_isValue
set_option maxRecDepth 20000 in
theorem ggX5_longest_X5_isShare : GoodIn wsX5_longest wsX5_isShare := goodIn_r _ [13, 8, 9, 6, 10] rfl (by decide +kernel)
set_option maxRecDepth 20000 in
theorem gX5_longest_X5_isShare : GoodIn wsX5_longest (va_wsS RX5 184 yX5_isShare wsX5_isShare) := goodIn_app (goodIn_r _ [11, 12, 6] rfl (by decide +kernel)) ggX5_longest_X5_isShare
set_option maxRecDepth 20000 in
theorem ggX5_longest_X5_within : GoodIn wsX5_longest wsX5_within := goodIn_r _ [10] rfl (by decide +kernel)
set_option maxRecDepth 20000 in
theorem gX5_longest_X5_within : GoodIn wsX5_longest (va_wsS RX5 80 yX5_within wsX5_within) := goodIn_app (goodIn_r _ [8, 9, 6] rfl (by decide +kernel)) ggX5_longest_X5_within
def dt_cX5_longest_0 : List (Nat × Nat × Nat × Nat) := [(0, 42, 0, 0), (1, 3, 0, 0), (2, 181, 2, 77), (5, 27, 0, 0), (6, 184, 2, 132), (9, 153, 2, 21), (12, 28, 0, 0), (13, 29, 0, 0), (14, 184, 2, 184), (17, 153, 2, 13), (20, 21, 1, 4), (22, 3, 0, 0), (23, 4, 0, 0), (24, 184, 2, 80), (27, 154, 2, 5), (30, 2, 0, 0), (31, 172, 0, 0), (32, 2, 0, 0), (33, 54, 1, 5), (35, 2, 0, 0)]
theorem da_cX5_longest_0 : fw dt_cX5_longest_0 0 cX5_longest.data.toList = true := by decide +kernel
theorem dX5_longest_0 : decode cX5_longest 0 = .ok (.aload_n 0, 1) := fo_42 (fw_get da_cX5_longest_0 0 rfl)
theorem dX5_longest_1 : decode cX5_longest 1 = .ok (.iconst 0, 1) := fo_3 (fw_get da_cX5_longest_0 1 rfl)
theorem dX5_longest_2 : decode cX5_longest 2 = .ok (.putfield 77, 3) := fo_181 (fw_get da_cX5_longest_0 2 rfl)
theorem dX5_longest_5 : decode cX5_longest 5 = .ok (.iload_n 1, 1) := fo_27 (fw_get da_cX5_longest_0 3 rfl)
theorem dX5_longest_6 : decode cX5_longest 6 = .ok (.invokestatic 132, 3) := fo_184 (fw_get da_cX5_longest_0 4 rfl)
theorem dX5_longest_9 : decode cX5_longest 9 = .ok (.ifCond .eq 21, 3) := fo_153 (fw_get da_cX5_longest_0 5 rfl) (by decide +kernel)
theorem dX5_longest_12 : decode cX5_longest 12 = .ok (.iload_n 2, 1) := fo_28 (fw_get da_cX5_longest_0 6 rfl)
theorem dX5_longest_13 : decode cX5_longest 13 = .ok (.iload_n 3, 1) := fo_29 (fw_get da_cX5_longest_0 7 rfl)
theorem dX5_longest_14 : decode cX5_longest 14 = .ok (.invokestatic 184, 3) := fo_184 (fw_get da_cX5_longest_0 8 rfl)
theorem dX5_longest_17 : decode cX5_longest 17 = .ok (.ifCond .eq 13, 3) := fo_153 (fw_get da_cX5_longest_0 9 rfl) (by decide +kernel)
theorem dX5_longest_20 : decode cX5_longest 20 = .ok (.iload 4, 2) := fo_21 (fw_get da_cX5_longest_0 10 rfl)
theorem dX5_longest_22 : decode cX5_longest 22 = .ok (.iconst 0, 1) := fo_3 (fw_get da_cX5_longest_0 11 rfl)
theorem dX5_longest_23 : decode cX5_longest 23 = .ok (.iconst 1, 1) := fo_4 (fw_get da_cX5_longest_0 12 rfl)
theorem dX5_longest_24 : decode cX5_longest 24 = .ok (.invokestatic 80, 3) := fo_184 (fw_get da_cX5_longest_0 13 rfl)
theorem dX5_longest_27 : decode cX5_longest 27 = .ok (.ifCond .ne 5, 3) := fo_154 (fw_get da_cX5_longest_0 14 rfl) (by decide +kernel)
theorem dX5_longest_30 : decode cX5_longest 30 = .ok (.iconst (-1), 1) := fo_2 (fw_get da_cX5_longest_0 15 rfl)
theorem dX5_longest_31 : decode cX5_longest 31 = .ok (.ireturn, 1) := fo_172 (fw_get da_cX5_longest_0 16 rfl)
theorem dX5_longest_32 : decode cX5_longest 32 = .ok (.iconst (-1), 1) := fo_2 (fw_get da_cX5_longest_0 17 rfl)
theorem dX5_longest_33 : decode cX5_longest 33 = .ok (.istore 5, 2) := fo_54 (fw_get da_cX5_longest_0 18 rfl)
theorem dX5_longest_35 : decode cX5_longest 35 = .ok (.iconst (-1), 1) := fo_2 (fw_get da_cX5_longest_0 19 rfl)
def dt_cX5_longest_1 : List (Nat × Nat × Nat × Nat) := [(36, 54, 1, 6), (38, 3, 0, 0), (39, 54, 1, 7), (41, 21, 1, 7), (43, 42, 0, 0), (44, 180, 2, 84), (47, 162, 2, 92), (50, 3, 0, 0), (51, 54, 1, 8), (53, 21, 1, 7), (55, 4, 0, 0), (56, 96, 0, 0), (57, 54, 1, 9), (59, 21, 1, 9), (61, 42, 0, 0), (62, 180, 2, 84), (65, 163, 2, 68), (68, 42, 0, 0), (69, 180, 2, 7), (72, 21, 1, 9)]
theorem da_cX5_longest_1 : fw dt_cX5_longest_1 0 cX5_longest.data.toList = true := by decide +kernel
theorem dX5_longest_36 : decode cX5_longest 36 = .ok (.istore 6, 2) := fo_54 (fw_get da_cX5_longest_1 0 rfl)
theorem dX5_longest_38 : decode cX5_longest 38 = .ok (.iconst 0, 1) := fo_3 (fw_get da_cX5_longest_1 1 rfl)
theorem dX5_longest_39 : decode cX5_longest 39 = .ok (.istore 7, 2) := fo_54 (fw_get da_cX5_longest_1 2 rfl)
theorem dX5_longest_41 : decode cX5_longest 41 = .ok (.iload 7, 2) := fo_21 (fw_get da_cX5_longest_1 3 rfl)
theorem dX5_longest_43 : decode cX5_longest 43 = .ok (.aload_n 0, 1) := fo_42 (fw_get da_cX5_longest_1 4 rfl)
theorem dX5_longest_44 : decode cX5_longest 44 = .ok (.getfield 84, 3) := fo_180 (fw_get da_cX5_longest_1 5 rfl)
theorem dX5_longest_47 : decode cX5_longest 47 = .ok (.if_icmp .ge 92, 3) := fo_162 (fw_get da_cX5_longest_1 6 rfl) (by decide +kernel)
theorem dX5_longest_50 : decode cX5_longest 50 = .ok (.iconst 0, 1) := fo_3 (fw_get da_cX5_longest_1 7 rfl)
theorem dX5_longest_51 : decode cX5_longest 51 = .ok (.istore 8, 2) := fo_54 (fw_get da_cX5_longest_1 8 rfl)
theorem dX5_longest_53 : decode cX5_longest 53 = .ok (.iload 7, 2) := fo_21 (fw_get da_cX5_longest_1 9 rfl)
theorem dX5_longest_55 : decode cX5_longest 55 = .ok (.iconst 1, 1) := fo_4 (fw_get da_cX5_longest_1 10 rfl)
theorem dX5_longest_56 : decode cX5_longest 56 = .ok (.iadd, 1) := fo_96 (fw_get da_cX5_longest_1 11 rfl)
theorem dX5_longest_57 : decode cX5_longest 57 = .ok (.istore 9, 2) := fo_54 (fw_get da_cX5_longest_1 12 rfl)
theorem dX5_longest_59 : decode cX5_longest 59 = .ok (.iload 9, 2) := fo_21 (fw_get da_cX5_longest_1 13 rfl)
theorem dX5_longest_61 : decode cX5_longest 61 = .ok (.aload_n 0, 1) := fo_42 (fw_get da_cX5_longest_1 14 rfl)
theorem dX5_longest_62 : decode cX5_longest 62 = .ok (.getfield 84, 3) := fo_180 (fw_get da_cX5_longest_1 15 rfl)
theorem dX5_longest_65 : decode cX5_longest 65 = .ok (.if_icmp .gt 68, 3) := fo_163 (fw_get da_cX5_longest_1 16 rfl) (by decide +kernel)
theorem dX5_longest_68 : decode cX5_longest 68 = .ok (.aload_n 0, 1) := fo_42 (fw_get da_cX5_longest_1 17 rfl)
theorem dX5_longest_69 : decode cX5_longest 69 = .ok (.getfield 7, 3) := fo_180 (fw_get da_cX5_longest_1 18 rfl)
theorem dX5_longest_72 : decode cX5_longest 72 = .ok (.iload 9, 2) := fo_21 (fw_get da_cX5_longest_1 19 rfl)
def dt_cX5_longest_2 : List (Nat × Nat × Nat × Nat) := [(74, 4, 0, 0), (75, 100, 0, 0), (76, 46, 0, 0), (77, 27, 0, 0), (78, 160, 2, 6), (81, 132, 2, 2049), (84, 21, 1, 8), (86, 29, 0, 0), (87, 104, 0, 0), (88, 28, 0, 0), (89, 21, 1, 9), (91, 21, 1, 7), (93, 100, 0, 0), (94, 104, 0, 0), (95, 164, 2, 32), (98, 21, 1, 5), (100, 155, 2, 19), (103, 21, 1, 9), (105, 21, 1, 7), (107, 100, 0, 0)]
theorem da_cX5_longest_2 : fw dt_cX5_longest_2 0 cX5_longest.data.toList = true := by decide +kernel
theorem dX5_longest_74 : decode cX5_longest 74 = .ok (.iconst 1, 1) := fo_4 (fw_get da_cX5_longest_2 0 rfl)
theorem dX5_longest_75 : decode cX5_longest 75 = .ok (.isub, 1) := fo_100 (fw_get da_cX5_longest_2 1 rfl)
theorem dX5_longest_76 : decode cX5_longest 76 = .ok (.iaload, 1) := fo_46 (fw_get da_cX5_longest_2 2 rfl)
theorem dX5_longest_77 : decode cX5_longest 77 = .ok (.iload_n 1, 1) := fo_27 (fw_get da_cX5_longest_2 3 rfl)
theorem dX5_longest_78 : decode cX5_longest 78 = .ok (.if_icmp .ne 6, 3) := fo_160 (fw_get da_cX5_longest_2 4 rfl) (by decide +kernel)
theorem dX5_longest_81 : decode cX5_longest 81 = .ok (.iinc 8 1, 3) := fo_132 (fw_get da_cX5_longest_2 5 rfl) rfl (by decide +kernel)
theorem dX5_longest_84 : decode cX5_longest 84 = .ok (.iload 8, 2) := fo_21 (fw_get da_cX5_longest_2 6 rfl)
theorem dX5_longest_86 : decode cX5_longest 86 = .ok (.iload_n 3, 1) := fo_29 (fw_get da_cX5_longest_2 7 rfl)
theorem dX5_longest_87 : decode cX5_longest 87 = .ok (.imul, 1) := fo_104 (fw_get da_cX5_longest_2 8 rfl)
theorem dX5_longest_88 : decode cX5_longest 88 = .ok (.iload_n 2, 1) := fo_28 (fw_get da_cX5_longest_2 9 rfl)
theorem dX5_longest_89 : decode cX5_longest 89 = .ok (.iload 9, 2) := fo_21 (fw_get da_cX5_longest_2 10 rfl)
theorem dX5_longest_91 : decode cX5_longest 91 = .ok (.iload 7, 2) := fo_21 (fw_get da_cX5_longest_2 11 rfl)
theorem dX5_longest_93 : decode cX5_longest 93 = .ok (.isub, 1) := fo_100 (fw_get da_cX5_longest_2 12 rfl)
theorem dX5_longest_94 : decode cX5_longest 94 = .ok (.imul, 1) := fo_104 (fw_get da_cX5_longest_2 13 rfl)
theorem dX5_longest_95 : decode cX5_longest 95 = .ok (.if_icmp .le 32, 3) := fo_164 (fw_get da_cX5_longest_2 14 rfl) (by decide +kernel)
theorem dX5_longest_98 : decode cX5_longest 98 = .ok (.iload 5, 2) := fo_21 (fw_get da_cX5_longest_2 15 rfl)
theorem dX5_longest_100 : decode cX5_longest 100 = .ok (.ifCond .lt 19, 3) := fo_155 (fw_get da_cX5_longest_2 16 rfl) (by decide +kernel)
theorem dX5_longest_103 : decode cX5_longest 103 = .ok (.iload 9, 2) := fo_21 (fw_get da_cX5_longest_2 17 rfl)
theorem dX5_longest_105 : decode cX5_longest 105 = .ok (.iload 7, 2) := fo_21 (fw_get da_cX5_longest_2 18 rfl)
theorem dX5_longest_107 : decode cX5_longest 107 = .ok (.isub, 1) := fo_100 (fw_get da_cX5_longest_2 19 rfl)
def dt_cX5_longest_3 : List (Nat × Nat × Nat × Nat) := [(108, 21, 1, 6), (110, 21, 1, 5), (112, 100, 0, 0), (113, 163, 2, 6), (116, 167, 2, 11), (119, 21, 1, 7), (121, 54, 1, 5), (123, 21, 1, 9), (125, 54, 1, 6), (127, 132, 2, 2305), (130, 167, 2, 65465), (133, 132, 2, 1793), (136, 167, 2, 65441), (139, 21, 1, 4), (141, 154, 2, 8), (144, 21, 1, 5), (146, 167, 2, 5), (149, 21, 1, 6), (151, 172, 0, 0)]
theorem da_cX5_longest_3 : fw dt_cX5_longest_3 0 cX5_longest.data.toList = true := by decide +kernel
theorem dX5_longest_108 : decode cX5_longest 108 = .ok (.iload 6, 2) := fo_21 (fw_get da_cX5_longest_3 0 rfl)
theorem dX5_longest_110 : decode cX5_longest 110 = .ok (.iload 5, 2) := fo_21 (fw_get da_cX5_longest_3 1 rfl)
theorem dX5_longest_112 : decode cX5_longest 112 = .ok (.isub, 1) := fo_100 (fw_get da_cX5_longest_3 2 rfl)
theorem dX5_longest_113 : decode cX5_longest 113 = .ok (.if_icmp .gt 6, 3) := fo_163 (fw_get da_cX5_longest_3 3 rfl) (by decide +kernel)
theorem dX5_longest_116 : decode cX5_longest 116 = .ok (.goto 11, 3) := fo_167 (fw_get da_cX5_longest_3 4 rfl) (by decide +kernel)
theorem dX5_longest_119 : decode cX5_longest 119 = .ok (.iload 7, 2) := fo_21 (fw_get da_cX5_longest_3 5 rfl)
theorem dX5_longest_121 : decode cX5_longest 121 = .ok (.istore 5, 2) := fo_54 (fw_get da_cX5_longest_3 6 rfl)
theorem dX5_longest_123 : decode cX5_longest 123 = .ok (.iload 9, 2) := fo_21 (fw_get da_cX5_longest_3 7 rfl)
theorem dX5_longest_125 : decode cX5_longest 125 = .ok (.istore 6, 2) := fo_54 (fw_get da_cX5_longest_3 8 rfl)
theorem dX5_longest_127 : decode cX5_longest 127 = .ok (.iinc 9 1, 3) := fo_132 (fw_get da_cX5_longest_3 9 rfl) rfl (by decide +kernel)
theorem dX5_longest_130 : decode cX5_longest 130 = .ok (.goto (-71), 3) := fo_167 (fw_get da_cX5_longest_3 10 rfl) (by decide +kernel)
theorem dX5_longest_133 : decode cX5_longest 133 = .ok (.iinc 7 1, 3) := fo_132 (fw_get da_cX5_longest_3 11 rfl) rfl (by decide +kernel)
theorem dX5_longest_136 : decode cX5_longest 136 = .ok (.goto (-95), 3) := fo_167 (fw_get da_cX5_longest_3 12 rfl) (by decide +kernel)
theorem dX5_longest_139 : decode cX5_longest 139 = .ok (.iload 4, 2) := fo_21 (fw_get da_cX5_longest_3 13 rfl)
theorem dX5_longest_141 : decode cX5_longest 141 = .ok (.ifCond .ne 8, 3) := fo_154 (fw_get da_cX5_longest_3 14 rfl) (by decide +kernel)
theorem dX5_longest_144 : decode cX5_longest 144 = .ok (.iload 5, 2) := fo_21 (fw_get da_cX5_longest_3 15 rfl)
theorem dX5_longest_146 : decode cX5_longest 146 = .ok (.goto 5, 3) := fo_167 (fw_get da_cX5_longest_3 16 rfl) (by decide +kernel)
theorem dX5_longest_149 : decode cX5_longest 149 = .ok (.iload 6, 2) := fo_21 (fw_get da_cX5_longest_3 17 rfl)
theorem dX5_longest_151 : decode cX5_longest 151 = .ok (.ireturn, 1) := fo_172 (fw_get da_cX5_longest_3 18 rfl)
set_option maxRecDepth 20000 in
theorem ggX5_cut_X5_isRange : GoodIn wsX5_cut wsX5_isRange := goodIn_r _ [7, 8, 18, 19, 20, 21, 22, 23, 24, 25, 26, 27, 28, 29, 30, 31, 32, 33, 34, 35, 36, 37, 38, 39, 40, 41, 42, 43, 44, 45, 46, 47] rfl (by decide +kernel)
set_option maxRecDepth 20000 in
theorem gX5_cut_X5_isRange : GoodIn wsX5_cut (wsV RX5 142 RX5 yX5_isRange wsX5_isRange) := goodIn_app (goodIn_r _ [3, 4, 5, 6] rfl (by decide +kernel)) ggX5_cut_X5_isRange
set_option maxRecDepth 20000 in
theorem ggX5_cut_X5_majorityOf : GoodIn wsX5_cut wsX5_majorityOf := goodIn_r _ [12, 13, 2, 14, 15, 16, 6, 17, 18, 19, 20, 21, 22, 23, 24, 25, 26, 27, 28, 29, 30, 31, 32, 33, 34, 35, 36, 37, 38, 39, 40, 41, 42, 43, 44, 45, 46, 47] rfl (by decide +kernel)
set_option maxRecDepth 20000 in
theorem gX5_cut_X5_majorityOf : GoodIn wsX5_cut (wsV RX5 194 RX5 yX5_majorityOf wsX5_majorityOf) := goodIn_app (goodIn_r _ [9, 10, 11, 6] rfl (by decide +kernel)) ggX5_cut_X5_majorityOf
def dt_cX5_cut_0 : List (Nat × Nat × Nat × Nat) := [(0, 42, 0, 0), (1, 3, 0, 0), (2, 181, 2, 77), (5, 42, 0, 0), (6, 27, 0, 0), (7, 28, 0, 0), (8, 182, 2, 142), (11, 154, 2, 5), (14, 2, 0, 0), (15, 172, 0, 0), (16, 27, 0, 0), (17, 4, 0, 0), (18, 96, 0, 0), (19, 62, 0, 0), (20, 29, 0, 0), (21, 28, 0, 0), (22, 162, 2, 48), (25, 42, 0, 0), (26, 27, 0, 0), (27, 29, 0, 0)]
theorem da_cX5_cut_0 : fw dt_cX5_cut_0 0 cX5_cut.data.toList = true := by decide +kernel
theorem dX5_cut_0 : decode cX5_cut 0 = .ok (.aload_n 0, 1) := fo_42 (fw_get da_cX5_cut_0 0 rfl)
theorem dX5_cut_1 : decode cX5_cut 1 = .ok (.iconst 0, 1) := fo_3 (fw_get da_cX5_cut_0 1 rfl)
theorem dX5_cut_2 : decode cX5_cut 2 = .ok (.putfield 77, 3) := fo_181 (fw_get da_cX5_cut_0 2 rfl)
theorem dX5_cut_5 : decode cX5_cut 5 = .ok (.aload_n 0, 1) := fo_42 (fw_get da_cX5_cut_0 3 rfl)
theorem dX5_cut_6 : decode cX5_cut 6 = .ok (.iload_n 1, 1) := fo_27 (fw_get da_cX5_cut_0 4 rfl)
theorem dX5_cut_7 : decode cX5_cut 7 = .ok (.iload_n 2, 1) := fo_28 (fw_get da_cX5_cut_0 5 rfl)
theorem dX5_cut_8 : decode cX5_cut 8 = .ok (.invokevirtual 142, 3) := fo_182 (fw_get da_cX5_cut_0 6 rfl)
theorem dX5_cut_11 : decode cX5_cut 11 = .ok (.ifCond .ne 5, 3) := fo_154 (fw_get da_cX5_cut_0 7 rfl) (by decide +kernel)
theorem dX5_cut_14 : decode cX5_cut 14 = .ok (.iconst (-1), 1) := fo_2 (fw_get da_cX5_cut_0 8 rfl)
theorem dX5_cut_15 : decode cX5_cut 15 = .ok (.ireturn, 1) := fo_172 (fw_get da_cX5_cut_0 9 rfl)
theorem dX5_cut_16 : decode cX5_cut 16 = .ok (.iload_n 1, 1) := fo_27 (fw_get da_cX5_cut_0 10 rfl)
theorem dX5_cut_17 : decode cX5_cut 17 = .ok (.iconst 1, 1) := fo_4 (fw_get da_cX5_cut_0 11 rfl)
theorem dX5_cut_18 : decode cX5_cut 18 = .ok (.iadd, 1) := fo_96 (fw_get da_cX5_cut_0 12 rfl)
theorem dX5_cut_19 : decode cX5_cut 19 = .ok (.istore_n 3, 1) := fo_62 (fw_get da_cX5_cut_0 13 rfl)
theorem dX5_cut_20 : decode cX5_cut 20 = .ok (.iload_n 3, 1) := fo_29 (fw_get da_cX5_cut_0 14 rfl)
theorem dX5_cut_21 : decode cX5_cut 21 = .ok (.iload_n 2, 1) := fo_28 (fw_get da_cX5_cut_0 15 rfl)
theorem dX5_cut_22 : decode cX5_cut 22 = .ok (.if_icmp .ge 48, 3) := fo_162 (fw_get da_cX5_cut_0 16 rfl) (by decide +kernel)
theorem dX5_cut_25 : decode cX5_cut 25 = .ok (.aload_n 0, 1) := fo_42 (fw_get da_cX5_cut_0 17 rfl)
theorem dX5_cut_26 : decode cX5_cut 26 = .ok (.iload_n 1, 1) := fo_27 (fw_get da_cX5_cut_0 18 rfl)
theorem dX5_cut_27 : decode cX5_cut 27 = .ok (.iload_n 3, 1) := fo_29 (fw_get da_cX5_cut_0 19 rfl)
def dt_cX5_cut_1 : List (Nat × Nat × Nat × Nat) := [(28, 182, 2, 194), (31, 54, 1, 4), (33, 42, 0, 0), (34, 29, 0, 0), (35, 28, 0, 0), (36, 182, 2, 194), (39, 54, 1, 5), (41, 21, 1, 4), (43, 18, 1, 148), (45, 159, 2, 19), (48, 21, 1, 5), (50, 18, 1, 148), (52, 159, 2, 12), (55, 21, 1, 4), (57, 21, 1, 5), (59, 159, 2, 5), (62, 29, 0, 0), (63, 172, 0, 0), (64, 132, 2, 769), (67, 167, 2, 65489)]
theorem da_cX5_cut_1 : fw dt_cX5_cut_1 0 cX5_cut.data.toList = true := by decide +kernel
theorem dX5_cut_28 : decode cX5_cut 28 = .ok (.invokevirtual 194, 3) := fo_182 (fw_get da_cX5_cut_1 0 rfl)
theorem dX5_cut_31 : decode cX5_cut 31 = .ok (.istore 4, 2) := fo_54 (fw_get da_cX5_cut_1 1 rfl)
theorem dX5_cut_33 : decode cX5_cut 33 = .ok (.aload_n 0, 1) := fo_42 (fw_get da_cX5_cut_1 2 rfl)
theorem dX5_cut_34 : decode cX5_cut 34 = .ok (.iload_n 3, 1) := fo_29 (fw_get da_cX5_cut_1 3 rfl)
theorem dX5_cut_35 : decode cX5_cut 35 = .ok (.iload_n 2, 1) := fo_28 (fw_get da_cX5_cut_1 4 rfl)
theorem dX5_cut_36 : decode cX5_cut 36 = .ok (.invokevirtual 194, 3) := fo_182 (fw_get da_cX5_cut_1 5 rfl)
theorem dX5_cut_39 : decode cX5_cut 39 = .ok (.istore 5, 2) := fo_54 (fw_get da_cX5_cut_1 6 rfl)
theorem dX5_cut_41 : decode cX5_cut 41 = .ok (.iload 4, 2) := fo_21 (fw_get da_cX5_cut_1 7 rfl)
theorem dX5_cut_43 : decode cX5_cut 43 = .ok (.ldc 148, 2) := fo_18 (fw_get da_cX5_cut_1 8 rfl)
theorem dX5_cut_45 : decode cX5_cut 45 = .ok (.if_icmp .eq 19, 3) := fo_159 (fw_get da_cX5_cut_1 9 rfl) (by decide +kernel)
theorem dX5_cut_48 : decode cX5_cut 48 = .ok (.iload 5, 2) := fo_21 (fw_get da_cX5_cut_1 10 rfl)
theorem dX5_cut_50 : decode cX5_cut 50 = .ok (.ldc 148, 2) := fo_18 (fw_get da_cX5_cut_1 11 rfl)
theorem dX5_cut_52 : decode cX5_cut 52 = .ok (.if_icmp .eq 12, 3) := fo_159 (fw_get da_cX5_cut_1 12 rfl) (by decide +kernel)
theorem dX5_cut_55 : decode cX5_cut 55 = .ok (.iload 4, 2) := fo_21 (fw_get da_cX5_cut_1 13 rfl)
theorem dX5_cut_57 : decode cX5_cut 57 = .ok (.iload 5, 2) := fo_21 (fw_get da_cX5_cut_1 14 rfl)
theorem dX5_cut_59 : decode cX5_cut 59 = .ok (.if_icmp .eq 5, 3) := fo_159 (fw_get da_cX5_cut_1 15 rfl) (by decide +kernel)
theorem dX5_cut_62 : decode cX5_cut 62 = .ok (.iload_n 3, 1) := fo_29 (fw_get da_cX5_cut_1 16 rfl)
theorem dX5_cut_63 : decode cX5_cut 63 = .ok (.ireturn, 1) := fo_172 (fw_get da_cX5_cut_1 17 rfl)
theorem dX5_cut_64 : decode cX5_cut 64 = .ok (.iinc 3 1, 3) := fo_132 (fw_get da_cX5_cut_1 18 rfl) rfl (by decide +kernel)
theorem dX5_cut_67 : decode cX5_cut 67 = .ok (.goto (-47), 3) := fo_167 (fw_get da_cX5_cut_1 19 rfl) (by decide +kernel)
def dt_cX5_cut_2 : List (Nat × Nat × Nat × Nat) := [(70, 2, 0, 0), (71, 172, 0, 0)]
theorem da_cX5_cut_2 : fw dt_cX5_cut_2 0 cX5_cut.data.toList = true := by decide +kernel
theorem dX5_cut_70 : decode cX5_cut 70 = .ok (.iconst (-1), 1) := fo_2 (fw_get da_cX5_cut_2 0 rfl)
theorem dX5_cut_71 : decode cX5_cut 71 = .ok (.ireturn, 1) := fo_172 (fw_get da_cX5_cut_2 1 rfl)
theorem mi_wsX5_would_wsX5_would_r1 : ∀ w ∈ wsX5_would_r1, w ∈ wsX5_would := fun _ h => (List.mem_cons_of_mem _ (List.mem_append_left _ (List.mem_append_left _ h)))
theorem mi_wsX5_would_wsX50 : ∀ w ∈ wsX50, w ∈ wsX5_would := fun _ h => (List.mem_cons_of_mem _ (List.mem_append_right _ h))
set_option maxRecDepth 20000 in
theorem ggX5_would_X5_isPlace : GoodIn wsX5_would wsX5_isPlace := goodIn_m _ [(wsX5_would_r1, [false, false, false, false, false, false, false, true, true, true, true]), (wsX5_would_r1, [false, false, false, false, false, false, true, false, false, false, false, true]), (wsX50, [true, true, true, true, true, true, true, true, true, true, true, true, true, true, true, true, true, true, true, true, true, true, true, true, true, true, true, true, true, true])] (gm_c mi_wsX5_would_wsX5_would_r1 (gm_c mi_wsX5_would_wsX5_would_r1 (gm_c mi_wsX5_would_wsX50 gm_n))) rfl (by decide +kernel)
set_option maxRecDepth 20000 in
theorem gX5_would_X5_isPlace : GoodIn wsX5_would (wsV RX5 128 RX5 yX5_isPlace wsX5_isPlace) := goodIn_app (goodIn_m _ [(wsX5_would_r1, [false, false, false, true, true, true, true])] (gm_c mi_wsX5_would_wsX5_would_r1 gm_n) rfl (by decide +kernel)) ggX5_would_X5_isPlace
set_option maxRecDepth 20000 in
theorem ggX5_would_X5_isValue : GoodIn wsX5_would wsX5_isValue := goodIn_m _ [(wsX5_would_r1, [false, false, false, false, false, false, false, false, false, false, false, false, false, false, true]), (wsX5_would_r1, [false, false, false, false, false, false, false, false, false, true, true]), (wsX5_would_r1, [false, false, false, false, false, false, true, false, false, false, false, true])] (gm_c mi_wsX5_would_wsX5_would_r1 (gm_c mi_wsX5_would_wsX5_would_r1 (gm_c mi_wsX5_would_wsX5_would_r1 gm_n))) rfl (by decide +kernel)
set_option maxRecDepth 20000 in
theorem gX5_would_X5_isValue : GoodIn wsX5_would (va_wsS RX5 132 yX5_isValue wsX5_isValue) := goodIn_app (goodIn_m _ [(wsX5_would_r1, [false, false, false, false, false, false, false, false, false, false, false, false, true, true]), (wsX5_would_r1, [false, false, false, false, false, false, true])] (gm_c mi_wsX5_would_wsX5_would_r1 (gm_c mi_wsX5_would_wsX5_would_r1 gm_n)) rfl (by decide +kernel)) ggX5_would_X5_isValue
set_option maxRecDepth 20000 in
theorem ggX5_would_X5_isRange : GoodIn wsX5_would wsX5_isRange := goodIn_m _ [(wsX5_would_r1, [false, false, false, false, false, false, false, false, false, false, false, false, false, false, false, false, false, false, true]), (wsX5_would_r1, [false, false, false, false, false, false, false, false, true]), (wsX50, [true, true, true, true, true, true, true, true, true, true, true, true, true, true, true, true, true, true, true, true, true, true, true, true, true, true, true, true, true, true])] (gm_c mi_wsX5_would_wsX5_would_r1 (gm_c mi_wsX5_would_wsX5_would_r1 (gm_c mi_wsX5_would_wsX50 gm_n))) rfl (by decide +kernel)
set_option maxRecDepth 20000 in
theorem gX5_would_X5_isRange : GoodIn wsX5_would (wsV RX5 142 RX5 yX5_isRange wsX5_isRange) := goodIn_app (goodIn_m _ [(wsX5_would_r1, [false, false, false, false, false, false, false, false, false, false, false, false, false, false, false, true, true, true]), (wsX5_would_r1, [false, false, false, false, false, false, true])] (gm_c mi_wsX5_would_wsX5_would_r1 (gm_c mi_wsX5_would_wsX5_would_r1 gm_n)) rfl (by decide +kernel)) ggX5_would_X5_isRange
theorem mi_wsX5_would_wsX5_would_r2 : ∀ w ∈ wsX5_would_r2, w ∈ wsX5_would := fun _ h => (List.mem_cons_of_mem _ (List.mem_append_left _ (List.mem_append_right _ h)))
set_option maxRecDepth 20000 in
theorem ggX5_would_X5_majorityOf : GoodIn wsX5_would wsX5_majorityOf := goodIn_m _ [(wsX5_would_r1, [false, false, false, false, false, false, false, false, false, false, false, false, false, false, false, false, false, false, false, false, false, false, true]), (wsX5_would_r1, [false, false, true]), (wsX5_would_r1, [false, true, false, false, false, false, false, false, false, false, false, false, false, false, false, false, false, false, false, false, false, false, false, true]), (wsX5_would_r2, [true, true]), (wsX5_would_r1, [false, false, false, false, false, false, true]), (wsX5_would_r2, [false, false, true]), (wsX50, [true, true, true, true, true, true, true, true, true, true, true, true, true, true, true, true, true, true, true, true, true, true, true, true, true, true, true, true, true, true])] (gm_c mi_wsX5_would_wsX5_would_r1 (gm_c mi_wsX5_would_wsX5_would_r1 (gm_c mi_wsX5_would_wsX5_would_r1 (gm_c mi_wsX5_would_wsX5_would_r2 (gm_c mi_wsX5_would_wsX5_would_r1 (gm_c mi_wsX5_would_wsX5_would_r2 (gm_c mi_wsX5_would_wsX50 gm_n))))))) rfl (by decide +kernel)
set_option maxRecDepth 20000 in
theorem gX5_would_X5_majorityOf : GoodIn wsX5_would (wsV RX5 194 RX5 yX5_majorityOf wsX5_majorityOf) := goodIn_app (goodIn_m _ [(wsX5_would_r1, [false, false, false, false, false, false, false, false, false, false, false, false, false, false, false, false, false, false, false, true, true, true]), (wsX5_would_r1, [false, false, false, false, false, false, true])] (gm_c mi_wsX5_would_wsX5_would_r1 (gm_c mi_wsX5_would_wsX5_would_r1 gm_n)) rfl (by decide +kernel)) ggX5_would_X5_majorityOf
def dt_cX5_would_0 : List (Nat × Nat × Nat × Nat) := [(0, 42, 0, 0), (1, 3, 0, 0), (2, 181, 2, 77), (5, 42, 0, 0), (6, 27, 0, 0), (7, 182, 2, 128), (10, 153, 2, 20), (13, 28, 0, 0), (14, 184, 2, 132), (17, 153, 2, 13), (20, 42, 0, 0), (21, 29, 0, 0), (22, 21, 1, 4), (24, 182, 2, 142), (27, 154, 2, 6), (30, 18, 1, 148), (32, 172, 0, 0), (33, 42, 0, 0), (34, 180, 2, 7), (37, 27, 0, 0)]
theorem da_cX5_would_0 : fw dt_cX5_would_0 0 cX5_would.data.toList = true := by decide +kernel
theorem dX5_would_0 : decode cX5_would 0 = .ok (.aload_n 0, 1) := fo_42 (fw_get da_cX5_would_0 0 rfl)
theorem dX5_would_1 : decode cX5_would 1 = .ok (.iconst 0, 1) := fo_3 (fw_get da_cX5_would_0 1 rfl)
theorem dX5_would_2 : decode cX5_would 2 = .ok (.putfield 77, 3) := fo_181 (fw_get da_cX5_would_0 2 rfl)
theorem dX5_would_5 : decode cX5_would 5 = .ok (.aload_n 0, 1) := fo_42 (fw_get da_cX5_would_0 3 rfl)
theorem dX5_would_6 : decode cX5_would 6 = .ok (.iload_n 1, 1) := fo_27 (fw_get da_cX5_would_0 4 rfl)
theorem dX5_would_7 : decode cX5_would 7 = .ok (.invokevirtual 128, 3) := fo_182 (fw_get da_cX5_would_0 5 rfl)
theorem dX5_would_10 : decode cX5_would 10 = .ok (.ifCond .eq 20, 3) := fo_153 (fw_get da_cX5_would_0 6 rfl) (by decide +kernel)
theorem dX5_would_13 : decode cX5_would 13 = .ok (.iload_n 2, 1) := fo_28 (fw_get da_cX5_would_0 7 rfl)
theorem dX5_would_14 : decode cX5_would 14 = .ok (.invokestatic 132, 3) := fo_184 (fw_get da_cX5_would_0 8 rfl)
theorem dX5_would_17 : decode cX5_would 17 = .ok (.ifCond .eq 13, 3) := fo_153 (fw_get da_cX5_would_0 9 rfl) (by decide +kernel)
theorem dX5_would_20 : decode cX5_would 20 = .ok (.aload_n 0, 1) := fo_42 (fw_get da_cX5_would_0 10 rfl)
theorem dX5_would_21 : decode cX5_would 21 = .ok (.iload_n 3, 1) := fo_29 (fw_get da_cX5_would_0 11 rfl)
theorem dX5_would_22 : decode cX5_would 22 = .ok (.iload 4, 2) := fo_21 (fw_get da_cX5_would_0 12 rfl)
theorem dX5_would_24 : decode cX5_would 24 = .ok (.invokevirtual 142, 3) := fo_182 (fw_get da_cX5_would_0 13 rfl)
theorem dX5_would_27 : decode cX5_would 27 = .ok (.ifCond .ne 6, 3) := fo_154 (fw_get da_cX5_would_0 14 rfl) (by decide +kernel)
theorem dX5_would_30 : decode cX5_would 30 = .ok (.ldc 148, 2) := fo_18 (fw_get da_cX5_would_0 15 rfl)
theorem dX5_would_32 : decode cX5_would 32 = .ok (.ireturn, 1) := fo_172 (fw_get da_cX5_would_0 16 rfl)
theorem dX5_would_33 : decode cX5_would 33 = .ok (.aload_n 0, 1) := fo_42 (fw_get da_cX5_would_0 17 rfl)
theorem dX5_would_34 : decode cX5_would 34 = .ok (.getfield 7, 3) := fo_180 (fw_get da_cX5_would_0 18 rfl)
theorem dX5_would_37 : decode cX5_would 37 = .ok (.iload_n 1, 1) := fo_27 (fw_get da_cX5_would_0 19 rfl)
def dt_cX5_would_1 : List (Nat × Nat × Nat × Nat) := [(38, 46, 0, 0), (39, 54, 1, 5), (41, 42, 0, 0), (42, 180, 2, 7), (45, 27, 0, 0), (46, 28, 0, 0), (47, 79, 0, 0), (48, 42, 0, 0), (49, 29, 0, 0), (50, 21, 1, 4), (52, 182, 2, 194), (55, 54, 1, 6), (57, 42, 0, 0), (58, 180, 2, 7), (61, 27, 0, 0), (62, 21, 1, 5), (64, 79, 0, 0), (65, 21, 1, 6), (67, 172, 0, 0)]
theorem da_cX5_would_1 : fw dt_cX5_would_1 0 cX5_would.data.toList = true := by decide +kernel
theorem dX5_would_38 : decode cX5_would 38 = .ok (.iaload, 1) := fo_46 (fw_get da_cX5_would_1 0 rfl)
theorem dX5_would_39 : decode cX5_would 39 = .ok (.istore 5, 2) := fo_54 (fw_get da_cX5_would_1 1 rfl)
theorem dX5_would_41 : decode cX5_would 41 = .ok (.aload_n 0, 1) := fo_42 (fw_get da_cX5_would_1 2 rfl)
theorem dX5_would_42 : decode cX5_would 42 = .ok (.getfield 7, 3) := fo_180 (fw_get da_cX5_would_1 3 rfl)
theorem dX5_would_45 : decode cX5_would 45 = .ok (.iload_n 1, 1) := fo_27 (fw_get da_cX5_would_1 4 rfl)
theorem dX5_would_46 : decode cX5_would 46 = .ok (.iload_n 2, 1) := fo_28 (fw_get da_cX5_would_1 5 rfl)
theorem dX5_would_47 : decode cX5_would 47 = .ok (.iastore, 1) := fo_79 (fw_get da_cX5_would_1 6 rfl)
theorem dX5_would_48 : decode cX5_would 48 = .ok (.aload_n 0, 1) := fo_42 (fw_get da_cX5_would_1 7 rfl)
theorem dX5_would_49 : decode cX5_would 49 = .ok (.iload_n 3, 1) := fo_29 (fw_get da_cX5_would_1 8 rfl)
theorem dX5_would_50 : decode cX5_would 50 = .ok (.iload 4, 2) := fo_21 (fw_get da_cX5_would_1 9 rfl)
theorem dX5_would_52 : decode cX5_would 52 = .ok (.invokevirtual 194, 3) := fo_182 (fw_get da_cX5_would_1 10 rfl)
theorem dX5_would_55 : decode cX5_would 55 = .ok (.istore 6, 2) := fo_54 (fw_get da_cX5_would_1 11 rfl)
theorem dX5_would_57 : decode cX5_would 57 = .ok (.aload_n 0, 1) := fo_42 (fw_get da_cX5_would_1 12 rfl)
theorem dX5_would_58 : decode cX5_would 58 = .ok (.getfield 7, 3) := fo_180 (fw_get da_cX5_would_1 13 rfl)
theorem dX5_would_61 : decode cX5_would 61 = .ok (.iload_n 1, 1) := fo_27 (fw_get da_cX5_would_1 14 rfl)
theorem dX5_would_62 : decode cX5_would 62 = .ok (.iload 5, 2) := fo_21 (fw_get da_cX5_would_1 15 rfl)
theorem dX5_would_64 : decode cX5_would 64 = .ok (.iastore, 1) := fo_79 (fw_get da_cX5_would_1 16 rfl)
theorem dX5_would_65 : decode cX5_would 65 = .ok (.iload 6, 2) := fo_21 (fw_get da_cX5_would_1 17 rfl)
theorem dX5_would_67 : decode cX5_would 67 = .ok (.ireturn, 1) := fo_172 (fw_get da_cX5_would_1 18 rfl)


set_option maxHeartbeats 4000000 in
set_option maxRecDepth 100000 in
theorem c_X5_within (l : Launch) (dC : Nat → ClassId) (dI : Nat → Nat → Nat) (p0 : Int32) (p1 : Int32) (p2 : Int32) : Met l yX5_within wsX5_within ({ frames := 0, cells := 0, slots := 0, locals := 0 }) (va_Pc [.int p0, .int p1, .int p2] (fun U => va_P (dC, dI) vwCl [] U.heap ∧ va_K (dC, dI) vwCl [] U)) (vp_Si (fun r : Int32 => (r = 1 ∧ (p1.toInt ≤ p0.toInt ∧ p0.toInt ≤ p2.toInt)) ∨ (r = 0 ∧ (p0.toInt < p1.toInt ∨ p2.toInt < p0.toInt)))) 0 0 (fun _ => False) := by
  refine kx_stS (ws := wsX5_within) (cc := cX5_within) (maxL := 3) (ret := (some .boolean)) (by decide) rfl (Nat.le_of_ble_eq_true rfl) ?_
  intro p e s m below meth c ls hx hb hr hlocks hts hown hml hP hK hl
  have hown : s.vm.findClass RX5 = some m.cls := hown
  have hl : lv_has ls 3 [(0, .int p0), (1, .int p1), (2, .int p2)] := hl
  refine lv_iload_n hx hb dX5_within_0 rfl (lv_at hl 0 rfl) ?_
  refine lv_iload_n hx hb dX5_within_1 rfl (lv_at hl 1 rfl) ?_
  refine lv_icmp_lt (tgt := 14) hx hb dX5_within_2 (by decide) (fun c_1 => ?_) (fun c_1 => ?_)
  · have i_1 : p0.toInt < p1.toInt := kc_lt c_1
    refine lv_iconst (v := 0) hx hb dX5_within_14 (by decide) ?_
    exact W.zret (v := 0) hx hb hr (by decide) (hlocks := hlocks) (fun t ht hW => ⟨0, rfl, Or.inr (⟨rfl, (Or.inl (om_11 i_1))⟩), ht⟩) (fun q hq => by cases hq) dX5_within_15
  · have i_1 : p1.toInt ≤ p0.toInt := kc_nlt c_1
    refine lv_iload_n hx hb dX5_within_5 rfl (lv_at hl 0 rfl) ?_
    refine lv_iload_n hx hb dX5_within_6 rfl (lv_at hl 2 rfl) ?_
    refine lv_icmp_gt (tgt := 14) hx hb dX5_within_7 (by decide) (fun c_2 => ?_) (fun c_2 => ?_)
    · have i_2 : p2.toInt < p0.toInt := kc_lt c_2
      refine lv_iconst (v := 0) hx hb dX5_within_14 (by decide) ?_
      exact W.zret (v := 0) hx hb hr (by decide) (hlocks := hlocks) (fun t ht hW => ⟨0, rfl, Or.inr (⟨rfl, (Or.inr (om_11 i_2))⟩), ht⟩) (fun q hq => by cases hq) dX5_within_15
    · have i_2 : p0.toInt ≤ p2.toInt := kc_nlt c_2
      refine lv_iconst (v := 1) hx hb dX5_within_10 (by decide) ?_
      refine lv_goto (tgt := 15) hx hb dX5_within_11 (by decide) ?_
      exact W.zret (v := 1) hx hb hr (by decide) (hlocks := hlocks) (fun t ht hW => ⟨1, rfl, Or.inl ⟨rfl, ⟨(om_9 i_1), (om_9 i_2)⟩⟩, ht⟩) (fun q hq => by cases hq) dX5_within_15

set_option maxHeartbeats 4000000 in
set_option maxRecDepth 100000 in
theorem c_X5_isValue (l : Launch) (dC : Nat → ClassId) (dI : Nat → Nat → Nat) (p0 : Int32) : Met l yX5_isValue wsX5_isValue ({ frames := 1, cells := 0, slots := 0, locals := 45 }) (va_Pc [.int p0] (fun U => va_P (dC, dI) vwCl [] U.heap ∧ va_K (dC, dI) vwCl [] U)) (vp_Si (fun r : Int32 => (r = 1 ∧ (-32768 ≤ p0.toInt ∧ p0.toInt ≤ 32767)) ∨ (r = 0 ∧ (p0.toInt < -32768 ∨ 32767 < p0.toInt)))) 0 0 (fun _ => False) := by
  refine kx_stS (ws := wsX5_isValue) (cc := cX5_isValue) (maxL := 1) (ret := (some .boolean)) (by decide) rfl (Nat.le_of_ble_eq_true rfl) ?_
  intro p e s m below meth c ls hx hb hr hlocks hts hown hml hP hK hl
  have hown : s.vm.findClass RX5 = some m.cls := hown
  have hl : lv_has ls 1 [(0, .int p0)] := hl
  refine lv_iload_n hx hb dX5_isValue_0 rfl (lv_at hl 0 rfl) ?_
  refine lv_sipush (v := (-32768)) hx hb dX5_isValue_1 (by decide) ?_
  refine lv_sipush (v := 32767) hx hb dX5_isValue_4 (by decide) ?_
  have hPc := hP
  have hKc := hK
  refine vp_callSi (W.runS (As := [.int p0, .int (-32768), .int 32767]) (rest := []) ⟨hx, hb, hml, hown, hts⟩ (c_X5_within l dC dI p0 (-32768) 32767) (va_cwS 3 hts gX5_isValue_X5_within rfl rfl rfl (by decide +kernel) ⟨Nat.le_of_ble_eq_true rfl, Nat.le_of_ble_eq_true rfl⟩) ⟨fun a U g mk q => by obtain ⟨q0, qP, qK⟩ := q; exact ⟨q0, qP, va_K.moved (u := U) (U := U.calling g mk a) (Vm.Alike.refl U.vm) qK⟩, fun U hU hW => ⟨rfl, by rw [hU]; exact hPc, va_K.moved hW.alike hKc⟩⟩ rfl rfl hl.1 rfl (lv_room (Nat.le_of_ble_eq_true rfl)) dX5_isValue_7 ⟨Nat.le_of_ble_eq_true rfl, Nat.le_of_ble_eq_true rfl⟩) (fun r_1 w_1 => ?_)
  rcases w_1 with ⟨rfl, w_1⟩ | ⟨rfl, w_1⟩
  · have w_1 : ((-32768) ≤ p0.toInt ∧ p0.toInt ≤ 32767) := w_1
    exact W.zret (v := 1) hx hb hr (by decide) (hlocks := hlocks) (fun t ht hW => ⟨1, rfl, Or.inl ⟨rfl, ⟨(om_147 w_1.1), (om_148 w_1.2)⟩⟩, ht⟩) (fun q hq => by cases hq) dX5_isValue_10
  · have w_1 : (p0.toInt < (-32768) ∨ 32767 < p0.toInt) := w_1
    exact W.zret (v := 0) hx hb hr (by decide) (hlocks := hlocks) (fun t ht hW => ⟨0, rfl, Or.inr (⟨rfl, by omega⟩), ht⟩) (fun q hq => by cases hq) dX5_isValue_10

set_option maxHeartbeats 4000000 in
set_option maxRecDepth 100000 in
theorem c_X5_isShare (l : Launch) (dC : Nat → ClassId) (dI : Nat → Nat → Nat) (p0 : Int32) (p1 : Int32) : Met l yX5_isShare wsX5_isShare ({ frames := 1, cells := 0, slots := 0, locals := 45 }) (va_Pc [.int p0, .int p1] (fun U => va_P (dC, dI) vwCl [] U.heap ∧ va_K (dC, dI) vwCl [] U)) (vp_Si (fun r : Int32 => (r = 1 ∧ (1 ≤ p0.toInt ∧ p0.toInt ≤ p1.toInt ∧ p1.toInt ≤ 999)) ∨ (r = 0 ∧ (p0.toInt < 1 ∨ p1.toInt < p0.toInt ∨ 999 < p1.toInt)))) 0 0 (fun _ => False) := by
  refine kx_stS (ws := wsX5_isShare) (cc := cX5_isShare) (maxL := 2) (ret := (some .boolean)) (by decide) rfl (Nat.le_of_ble_eq_true rfl) ?_
  intro p e s m below meth c ls hx hb hr hlocks hts hown hml hP hK hl
  have hown : s.vm.findClass RX5 = some m.cls := hown
  have hl : lv_has ls 2 [(0, .int p0), (1, .int p1)] := hl
  refine lv_iload_n hx hb dX5_isShare_0 rfl (lv_at hl 0 rfl) ?_
  refine lv_iconst (v := 1) hx hb dX5_isShare_1 (by decide) ?_
  refine lv_sipush (v := 999) hx hb dX5_isShare_2 (by decide) ?_
  have hPc := hP
  have hKc := hK
  refine vp_callSi (W.runS (As := [.int p0, .int 1, .int 999]) (rest := []) ⟨hx, hb, hml, hown, hts⟩ (c_X5_within l dC dI p0 1 999) (va_cwS 3 hts gX5_isShare_X5_within rfl rfl rfl (by decide +kernel) ⟨Nat.le_of_ble_eq_true rfl, Nat.le_of_ble_eq_true rfl⟩) ⟨fun a U g mk q => by obtain ⟨q0, qP, qK⟩ := q; exact ⟨q0, qP, va_K.moved (u := U) (U := U.calling g mk a) (Vm.Alike.refl U.vm) qK⟩, fun U hU hW => ⟨rfl, by rw [hU]; exact hPc, va_K.moved hW.alike hKc⟩⟩ rfl rfl hl.1 rfl (lv_room (Nat.le_of_ble_eq_true rfl)) dX5_isShare_5 ⟨Nat.le_of_ble_eq_true rfl, Nat.le_of_ble_eq_true rfl⟩) (fun r_1 w_1 => ?_)
  rcases w_1 with ⟨rfl, w_1⟩ | ⟨rfl, w_1⟩
  · have w_1 : (1 ≤ p0.toInt ∧ p0.toInt ≤ 999) := w_1
    refine lv_if_eq (tgt := 26) hx hb dX5_isShare_8 (by decide) (fun c_2 => ?_) (fun c_2 => ?_)
    · exact absurd c_2 (by decide)
    · refine lv_iload_n hx hb dX5_isShare_11 rfl (lv_at hl 1 rfl) ?_
      refine lv_iload_n hx hb dX5_isShare_12 rfl (lv_at hl 0 rfl) ?_
      refine lv_sipush (v := 999) hx hb dX5_isShare_13 (by decide) ?_
      have hPc := hP
      have hKc := hK
      refine vp_callSi (W.runS (As := [.int p1, .int p0, .int 999]) (rest := []) ⟨hx, hb, hml, hown, hts⟩ (c_X5_within l dC dI p1 p0 999) (va_cwS 3 hts gX5_isShare_X5_within rfl rfl rfl (by decide +kernel) ⟨Nat.le_of_ble_eq_true rfl, Nat.le_of_ble_eq_true rfl⟩) ⟨fun a U g mk q => by obtain ⟨q0, qP, qK⟩ := q; exact ⟨q0, qP, va_K.moved (u := U) (U := U.calling g mk a) (Vm.Alike.refl U.vm) qK⟩, fun U hU hW => ⟨rfl, by rw [hU]; exact hPc, va_K.moved hW.alike hKc⟩⟩ rfl rfl hl.1 rfl (lv_room (Nat.le_of_ble_eq_true rfl)) dX5_isShare_16 ⟨Nat.le_of_ble_eq_true rfl, Nat.le_of_ble_eq_true rfl⟩) (fun r_3 w_3 => ?_)
      rcases w_3 with ⟨rfl, w_3⟩ | ⟨rfl, w_3⟩
      · have w_3 : (p0.toInt ≤ p1.toInt ∧ p1.toInt ≤ 999) := w_3
        refine lv_if_eq (tgt := 26) hx hb dX5_isShare_19 (by decide) (fun c_4 => ?_) (fun c_4 => ?_)
        · exact absurd c_4 (by decide)
        · refine lv_iconst (v := 1) hx hb dX5_isShare_22 (by decide) ?_
          refine lv_goto (tgt := 27) hx hb dX5_isShare_23 (by decide) ?_
          exact W.zret (v := 1) hx hb hr (by decide) (hlocks := hlocks) (fun t ht hW => ⟨1, rfl, Or.inl ⟨rfl, ⟨(om_151 w_1.1), (om_9 w_3.1), (om_152 w_3.2)⟩⟩, ht⟩) (fun q hq => by cases hq) dX5_isShare_27
      · have w_3 : (p1.toInt < p0.toInt ∨ 999 < p1.toInt) := w_3
        refine lv_if_eq (tgt := 26) hx hb dX5_isShare_19 (by decide) (fun c_5 => ?_) (fun c_5 => ?_)
        · refine lv_iconst (v := 0) hx hb dX5_isShare_26 (by decide) ?_
          exact W.zret (v := 0) hx hb hr (by decide) (hlocks := hlocks) (fun t ht hW => ⟨0, rfl, Or.inr (⟨rfl, by omega⟩), ht⟩) (fun q hq => by cases hq) dX5_isShare_27
        · exact absurd c_5 (by decide)
  · have w_1 : (p0.toInt < 1 ∨ 999 < p0.toInt) := w_1
    refine lv_if_eq (tgt := 26) hx hb dX5_isShare_8 (by decide) (fun c_6 => ?_) (fun c_6 => ?_)
    · refine lv_iconst (v := 0) hx hb dX5_isShare_26 (by decide) ?_
      exact W.zret (v := 0) hx hb hr (by decide) (hlocks := hlocks) (fun t ht hW => ⟨0, rfl, Or.inr (⟨rfl, by omega⟩), ht⟩) (fun q hq => by cases hq) dX5_isShare_27
    · exact absurd c_6 (by decide)

set_option maxHeartbeats 4000000 in
set_option maxRecDepth 100000 in
theorem c_X5_isPlace (l : Launch) (dC : Nat → ClassId) (dI : Nat → Nat → Nat) (h0 : Nat) (g_row : Nat) (g_many : Nat) (g_loss : Nat) (g_less : Nat) (g_voteValue : Nat) (g_voteNumber : Nat) (g_allValue : Nat) (g_allNumber : Nat) (g_nodeL : Nat) (g_nodeR : Nat) (g_part : Nat) (g_wasMany : Nat) (g_wasLoss : Nat) (g_wasValue : Nat) (g_wasNumber : Nat) (g_path : Nat) (g_heavyValue : Nat) (g_heavyTimes : Nat) (g_fewest : Nat) (g_which : Nat) (g_met : Nat) (m_n : Int32) (m_slots : Int32) (m_thrown : Int32) (m_allMany : Int32) (m_nodes : Int32) (m_partMany : Int32) (m_pathMany : Int32) (m_heavyMany : Int32) (m_mostMet : Int32) (p0 : Int32) (a0 : 0 ≤ m_n.toInt) (a1 : m_n.toInt ≤ 160) : Met l yX5_isPlace wsX5_isPlace ({ frames := 1, cells := 0, slots := 0, locals := 45 }) (va_Pc [.ref h0, .int p0] (fun U => va_P (dC, dI) vwCl [kx_5 h0 g_row m_n m_slots m_thrown g_many g_loss g_less g_voteValue g_voteNumber g_allValue g_allNumber m_allMany g_nodeL g_nodeR m_nodes g_part m_partMany g_wasMany g_wasLoss g_wasValue g_wasNumber g_path m_pathMany g_heavyValue g_heavyTimes m_heavyMany g_fewest g_which g_met m_mostMet] U.heap ∧ va_K (dC, dI) vwCl [] U)) (vp_Si (fun r : Int32 => (r = 1 ∧ (0 ≤ p0.toInt ∧ p0.toInt < m_n.toInt)) ∨ (r = 0 ∧ (p0.toInt < 0 ∨ m_n.toInt ≤ p0.toInt)))) 0 0 (fun _ => False) := by
  refine kx_stS (ws := wsX5_isPlace) (cc := cX5_isPlace) (maxL := 2) (ret := (some .boolean)) (by decide) rfl (Nat.le_of_ble_eq_true rfl) ?_
  intro p e s m below meth c ls hx hb hr hlocks hts hown hml hP hK hl
  have hown : s.vm.findClass RX5 = some m.cls := hown
  have hl : lv_has ls 2 [(0, .ref h0), (1, .int p0)] := hl
  have hf_84 := hts (.fieldLink RX5 84 "MajorityIndexModel" "n" "I") (List.mem_of_getElem? (i := 1) rfl)
  have hi_5 : ∀ w ∈ u_ws RX5 TX5 30, w ∈ wsX5_isPlace := fun w h => List.mem_cons_of_mem _ (List.mem_append_right _ h)
  refine lv_iload_n hx hb dX5_isPlace_0 rfl (lv_at hl 1 rfl) ?_
  refine lv_iconst (v := 0) hx hb dX5_isPlace_1 (by decide) ?_
  refine lv_aload_n hx hb dX5_isPlace_2 rfl (lv_at hl 0 rfl) ?_
  refine va_get (D := (dC, dI)) (ci := 5) (v := .int m_n) (C := RX5) (T := TX5) (N := 30) hx hb hts hi_5 hown hK hP 0 rfl rfl 1 (by decide) hf_84 (fun _ h9 => h9) rfl dX5_isPlace_3 ?_
  refine lv_iconst (v := 1) hx hb dX5_isPlace_6 (by decide) ?_
  refine lv_isub hx hb dX5_isPlace_7 ?_
  refine lv_topi (fun y_1 ey_1 => ?_)
  have i_1 : y_1.toInt = m_n.toInt - 1 := ki_sub ey_1 rfl rfl (om_113 a0) (om_87 a1)
  have hPc := hP.sub (ws' := []) [] rfl
  have hKc := hK
  refine vp_callSi (W.runS (As := [.int p0, .int 0, .int y_1]) (rest := []) ⟨hx, hb, hml, hown, hts⟩ (c_X5_within l dC dI p0 0 y_1) (va_cwS 3 hts gX5_isPlace_X5_within rfl rfl rfl (by decide +kernel) ⟨Nat.le_of_ble_eq_true rfl, Nat.le_of_ble_eq_true rfl⟩) ⟨fun a U g mk q => by obtain ⟨q0, qP, qK⟩ := q; exact ⟨q0, qP, va_K.moved (u := U) (U := U.calling g mk a) (Vm.Alike.refl U.vm) qK⟩, fun U hU hW => ⟨rfl, by rw [hU]; exact hPc, va_K.moved hW.alike hKc⟩⟩ rfl rfl hl.1 rfl (lv_room (Nat.le_of_ble_eq_true rfl)) dX5_isPlace_8 ⟨Nat.le_of_ble_eq_true rfl, Nat.le_of_ble_eq_true rfl⟩) (fun r_2 w_2 => ?_)
  rcases w_2 with ⟨rfl, w_2⟩ | ⟨rfl, w_2⟩
  · have w_2 : (0 ≤ p0.toInt ∧ p0.toInt ≤ y_1.toInt) := w_2
    exact W.zret (v := 1) hx hb hr (by decide) (hlocks := hlocks) (fun t ht hW => ⟨1, rfl, Or.inl ⟨rfl, ⟨(om_10 w_2.1), (om_221 i_1 w_2.2)⟩⟩, ht⟩) (fun q hq => by cases hq) dX5_isPlace_11
  · have w_2 : (p0.toInt < 0 ∨ y_1.toInt < p0.toInt) := w_2
    exact W.zret (v := 0) hx hb hr (by decide) (hlocks := hlocks) (fun t ht hW => ⟨0, rfl, Or.inr (⟨rfl, by omega⟩), ht⟩) (fun q hq => by cases hq) dX5_isPlace_11

set_option maxHeartbeats 4000000 in
set_option maxRecDepth 100000 in
theorem c_X5_isRange (l : Launch) (dC : Nat → ClassId) (dI : Nat → Nat → Nat) (h0 : Nat) (g_row : Nat) (g_many : Nat) (g_loss : Nat) (g_less : Nat) (g_voteValue : Nat) (g_voteNumber : Nat) (g_allValue : Nat) (g_allNumber : Nat) (g_nodeL : Nat) (g_nodeR : Nat) (g_part : Nat) (g_wasMany : Nat) (g_wasLoss : Nat) (g_wasValue : Nat) (g_wasNumber : Nat) (g_path : Nat) (g_heavyValue : Nat) (g_heavyTimes : Nat) (g_fewest : Nat) (g_which : Nat) (g_met : Nat) (m_n : Int32) (m_slots : Int32) (m_thrown : Int32) (m_allMany : Int32) (m_nodes : Int32) (m_partMany : Int32) (m_pathMany : Int32) (m_heavyMany : Int32) (m_mostMet : Int32) (p0 : Int32) (p1 : Int32) : Met l yX5_isRange wsX5_isRange ({ frames := 0, cells := 0, slots := 0, locals := 0 }) (va_Pc [.ref h0, .int p0, .int p1] (fun U => va_P (dC, dI) vwCl [kx_5 h0 g_row m_n m_slots m_thrown g_many g_loss g_less g_voteValue g_voteNumber g_allValue g_allNumber m_allMany g_nodeL g_nodeR m_nodes g_part m_partMany g_wasMany g_wasLoss g_wasValue g_wasNumber g_path m_pathMany g_heavyValue g_heavyTimes m_heavyMany g_fewest g_which g_met m_mostMet] U.heap ∧ va_K (dC, dI) vwCl [] U)) (vp_Si (fun r : Int32 => (r = 1 ∧ (0 ≤ p0.toInt ∧ p0.toInt < p1.toInt ∧ p1.toInt ≤ m_n.toInt)) ∨ (r = 0 ∧ (p0.toInt < 0 ∨ p1.toInt ≤ p0.toInt ∨ m_n.toInt < p1.toInt)))) 0 0 (fun _ => False) := by
  refine kx_stS (ws := wsX5_isRange) (cc := cX5_isRange) (maxL := 3) (ret := (some .boolean)) (by decide) rfl (Nat.le_of_ble_eq_true rfl) ?_
  intro p e s m below meth c ls hx hb hr hlocks hts hown hml hP hK hl
  have hown : s.vm.findClass RX5 = some m.cls := hown
  have hl : lv_has ls 3 [(0, .ref h0), (1, .int p0), (2, .int p1)] := hl
  have hf_84 := hts (.fieldLink RX5 84 "MajorityIndexModel" "n" "I") (List.mem_of_getElem? (i := 1) rfl)
  have hi_5 : ∀ w ∈ u_ws RX5 TX5 30, w ∈ wsX5_isRange := fun w h => List.mem_cons_of_mem _ (List.mem_append_right _ h)
  refine lv_iload_n hx hb dX5_isRange_0 rfl (lv_at hl 1 rfl) ?_
  refine lv_if_lt (tgt := 21) hx hb dX5_isRange_1 (by decide) (fun c_1 => ?_) (fun c_1 => ?_)
  · have i_1 : p0.toInt < 0 := kc_lt c_1
    refine lv_iconst (v := 0) hx hb dX5_isRange_21 (by decide) ?_
    exact W.zret (v := 0) hx hb hr (by decide) (hlocks := hlocks) (fun t ht hW => ⟨0, rfl, Or.inr (⟨rfl, (Or.inl (om_8 i_1))⟩), ht⟩) (fun q hq => by cases hq) dX5_isRange_22
  · have i_1 : 0 ≤ p0.toInt := kc_nlt c_1
    refine lv_iload_n hx hb dX5_isRange_4 rfl (lv_at hl 1 rfl) ?_
    refine lv_iload_n hx hb dX5_isRange_5 rfl (lv_at hl 2 rfl) ?_
    refine lv_icmp_ge (tgt := 21) hx hb dX5_isRange_6 (by decide) (fun c_2 => ?_) (fun c_2 => ?_)
    · have i_2 : p1.toInt ≤ p0.toInt := kc_le c_2
      refine lv_iconst (v := 0) hx hb dX5_isRange_21 (by decide) ?_
      exact W.zret (v := 0) hx hb hr (by decide) (hlocks := hlocks) (fun t ht hW => ⟨0, rfl, Or.inr (⟨rfl, (Or.inr (Or.inl (om_9 i_2)))⟩), ht⟩) (fun q hq => by cases hq) dX5_isRange_22
    · have i_2 : p0.toInt < p1.toInt := kc_nle c_2
      refine lv_iload_n hx hb dX5_isRange_9 rfl (lv_at hl 2 rfl) ?_
      refine lv_aload_n hx hb dX5_isRange_10 rfl (lv_at hl 0 rfl) ?_
      refine va_get (D := (dC, dI)) (ci := 5) (v := .int m_n) (C := RX5) (T := TX5) (N := 30) hx hb hts hi_5 hown hK hP 0 rfl rfl 1 (by decide) hf_84 (fun _ h9 => h9) rfl dX5_isRange_11 ?_
      refine lv_icmp_gt (tgt := 21) hx hb dX5_isRange_14 (by decide) (fun c_3 => ?_) (fun c_3 => ?_)
      · have i_3 : m_n.toInt < p1.toInt := kc_lt c_3
        refine lv_iconst (v := 0) hx hb dX5_isRange_21 (by decide) ?_
        exact W.zret (v := 0) hx hb hr (by decide) (hlocks := hlocks) (fun t ht hW => ⟨0, rfl, Or.inr (⟨rfl, (Or.inr (Or.inr (om_11 i_3)))⟩), ht⟩) (fun q hq => by cases hq) dX5_isRange_22
      · have i_3 : p1.toInt ≤ m_n.toInt := kc_nlt c_3
        refine lv_iconst (v := 1) hx hb dX5_isRange_17 (by decide) ?_
        refine lv_goto (tgt := 22) hx hb dX5_isRange_18 (by decide) ?_
        exact W.zret (v := 1) hx hb hr (by decide) (hlocks := hlocks) (fun t ht hW => ⟨1, rfl, Or.inl ⟨rfl, ⟨(om_10 i_1), (om_11 i_2), (om_9 i_3)⟩⟩, ht⟩) (fun q hq => by cases hq) dX5_isRange_22

set_option maxHeartbeats 4000000 in
set_option maxRecDepth 100000 in
theorem c_X5_isEnough (l : Launch) (dC : Nat → ClassId) (dI : Nat → Nat → Nat) (h0 : Nat) (g_row : Nat) (g_many : Nat) (g_loss : Nat) (g_less : Nat) (g_voteValue : Nat) (g_voteNumber : Nat) (g_allValue : Nat) (g_allNumber : Nat) (g_nodeL : Nat) (g_nodeR : Nat) (g_part : Nat) (g_wasMany : Nat) (g_wasLoss : Nat) (g_wasValue : Nat) (g_wasNumber : Nat) (g_path : Nat) (g_heavyValue : Nat) (g_heavyTimes : Nat) (g_fewest : Nat) (g_which : Nat) (g_met : Nat) (m_n : Int32) (m_slots : Int32) (m_thrown : Int32) (m_allMany : Int32) (m_nodes : Int32) (m_partMany : Int32) (m_pathMany : Int32) (m_heavyMany : Int32) (m_mostMet : Int32) (p0 : Int32) (p1 : Int32) : Met l yX5_isEnough wsX5_isEnough ({ frames := 0, cells := 0, slots := 0, locals := 0 }) (va_Pc [.ref h0, .int p0, .int p1] (fun U => va_P (dC, dI) vwCl [kx_5 h0 g_row m_n m_slots m_thrown g_many g_loss g_less g_voteValue g_voteNumber g_allValue g_allNumber m_allMany g_nodeL g_nodeR m_nodes g_part m_partMany g_wasMany g_wasLoss g_wasValue g_wasNumber g_path m_pathMany g_heavyValue g_heavyTimes m_heavyMany g_fewest g_which g_met m_mostMet] U.heap ∧ va_K (dC, dI) vwCl [] U)) (vp_Si (fun r : Int32 => (r = 1 ∧ (0 : Int) ≤ 1) ∨ (r = 0 ∧ (0 : Int) ≤ 1))) 0 0 (fun _ => False) := by
  refine kx_stS (ws := wsX5_isEnough) (cc := cX5_isEnough) (maxL := 3) (ret := (some .boolean)) (by decide) rfl (Nat.le_of_ble_eq_true rfl) ?_
  intro p e s m below meth c ls hx hb hr hlocks hts hown hml hP hK hl
  have hown : s.vm.findClass RX5 = some m.cls := hown
  have hl : lv_has ls 3 [(0, .ref h0), (1, .int p0), (2, .int p1)] := hl
  have hf_13 := hts (.fieldLink RX5 13 "MajorityIndexModel" "slots" "I") (List.mem_of_getElem? (i := 1) rfl)
  have hi_5 : ∀ w ∈ u_ws RX5 TX5 30, w ∈ wsX5_isEnough := fun w h => List.mem_cons_of_mem _ (List.mem_append_right _ h)
  refine lv_iload_n hx hb dX5_isEnough_0 rfl (lv_at hl 1 rfl) ?_
  refine lv_aload_n hx hb dX5_isEnough_1 rfl (lv_at hl 0 rfl) ?_
  refine va_get (D := (dC, dI)) (ci := 5) (v := .int m_slots) (C := RX5) (T := TX5) (N := 30) hx hb hts hi_5 hown hK hP 0 rfl rfl 2 (by decide) hf_13 (fun _ h9 => h9) rfl dX5_isEnough_2 ?_
  refine lv_iconst (v := 1) hx hb dX5_isEnough_5 (by decide) ?_
  refine lv_iadd hx hb dX5_isEnough_6 ?_
  refine lv_topi (fun y_1 ey_1 => ?_)
  refine lv_imul hx hb dX5_isEnough_7 ?_
  refine lv_topi (fun y_2 ey_2 => ?_)
  refine lv_iload_n hx hb dX5_isEnough_8 rfl (lv_at hl 2 rfl) ?_
  refine lv_icmp_lt (tgt := 16) hx hb dX5_isEnough_9 (by decide) (fun c_3 => ?_) (fun c_3 => ?_)
  · have i_3 : y_2.toInt < p1.toInt := kc_lt c_3
    refine lv_iconst (v := 0) hx hb dX5_isEnough_16 (by decide) ?_
    exact W.zret (v := 0) hx hb hr (by decide) (hlocks := hlocks) (fun t ht hW => ⟨0, rfl, Or.inr (⟨rfl, om_29⟩), ht⟩) (fun q hq => by cases hq) dX5_isEnough_17
  · have i_3 : p1.toInt ≤ y_2.toInt := kc_nlt c_3
    refine lv_iconst (v := 1) hx hb dX5_isEnough_12 (by decide) ?_
    refine lv_goto (tgt := 17) hx hb dX5_isEnough_13 (by decide) ?_
    exact W.zret (v := 1) hx hb hr (by decide) (hlocks := hlocks) (fun t ht hW => ⟨1, rfl, Or.inl ⟨rfl, om_29⟩, ht⟩) (fun q hq => by cases hq) dX5_isEnough_17

set_option maxHeartbeats 4000000 in
set_option maxRecDepth 100000 in
theorem c_X5_end (l : Launch) (dC : Nat → ClassId) (dI : Nat → Nat → Nat) (h0 : Nat) (g_row : Nat) (g_many : Nat) (g_loss : Nat) (g_less : Nat) (g_voteValue : Nat) (g_voteNumber : Nat) (g_allValue : Nat) (g_allNumber : Nat) (g_nodeL : Nat) (g_nodeR : Nat) (g_part : Nat) (g_wasMany : Nat) (g_wasLoss : Nat) (g_wasValue : Nat) (g_wasNumber : Nat) (g_path : Nat) (g_heavyValue : Nat) (g_heavyTimes : Nat) (g_fewest : Nat) (g_which : Nat) (g_met : Nat) (m_n : Int32) (m_slots : Int32) (m_thrown : Int32) (m_allMany : Int32) (m_nodes : Int32) (m_partMany : Int32) (m_pathMany : Int32) (m_heavyMany : Int32) (m_mostMet : Int32) (p0 : Int32) (sz : Nat) : kx_MQ l (dC, dI) yX5_end wsX5_end ({ frames := 1, cells := 0, slots := 0, locals := 45 }) [.ref h0, .int p0] [kx_5 h0 g_row m_n m_slots m_thrown g_many g_loss g_less g_voteValue g_voteNumber g_allValue g_allNumber m_allMany g_nodeL g_nodeR m_nodes g_part m_partMany g_wasMany g_wasLoss g_wasValue g_wasNumber g_path m_pathMany g_heavyValue g_heavyTimes m_heavyMany g_fewest g_which g_met m_mostMet] [] sz (fun A => va_Qi (fun (r : Int32) (u : Int32) => ((0 ≤ p0.toInt ∧ p0.toInt ≤ m_n.toInt ∧ r = p0 ∧ u = p0) ∨ ((p0.toInt < 0 ∨ m_n.toInt < p0.toInt) ∧ r = -1 ∧ u = m_n))) (fun (u : Int32) (t : State) => va_P (dC, dI) vwCl [kx_5 h0 g_row u m_slots 0 g_many g_loss g_less g_voteValue g_voteNumber g_allValue g_allNumber m_allMany g_nodeL g_nodeR m_nodes g_part m_partMany g_wasMany g_wasLoss g_wasValue g_wasNumber g_path m_pathMany g_heavyValue g_heavyTimes m_heavyMany g_fewest g_which g_met m_mostMet] t.heap ∧ va_K (dC, dI) vwCl [] t ∧ va_D A [kx_5 h0 g_row u m_slots 0 g_many g_loss g_less g_voteValue g_voteNumber g_allValue g_allNumber m_allMany g_nodeL g_nodeR m_nodes g_part m_partMany g_wasMany g_wasLoss g_wasValue g_wasNumber g_path m_pathMany g_heavyValue g_heavyTimes m_heavyMany g_fewest g_which g_met m_mostMet]) A) := by
  refine kx_stQ (ws := wsX5_end) (cc := cX5_end) (maxL := 2) (ret := (some .int)) (by decide) rfl (Nat.le_of_ble_eq_true rfl) ?_
  intro p e s m below meth c A ls hx hb hr hlocks hts hown hml hA hS hP hK hD hl
  have hown : s.vm.findClass RX5 = some m.cls := hown
  have hl : lv_has ls 2 [(0, .ref h0), (1, .int p0)] := hl
  have hf_77 := hts (.fieldLink RX5 77 "MajorityIndexModel" "thrown" "I") (List.mem_of_getElem? (i := 1) rfl)
  have hi_5 : ∀ w ∈ u_ws RX5 TX5 30, w ∈ wsX5_end := fun w h => List.mem_cons_of_mem _ (List.mem_append_right _ h)
  have hf_84 := hts (.fieldLink RX5 84 "MajorityIndexModel" "n" "I") (List.mem_of_getElem? (i := 2) rfl)
  refine lv_aload_n hx hb dX5_end_0 rfl (lv_at hl 0 rfl) ?_
  refine lv_iconst (v := 0) hx hb dX5_end_1 (by decide) ?_
  refine va_put (D := (dC, dI)) (ci := 5) (v := .int 0) (ty := .int) (C := RX5) (T := TX5) (N := 30) hx hb hts hi_5 tyX5 tyX5_ok nmX5 hown hK hP hD hS 0 rfl rfl 3 (by decide) hf_77 (fun _ h9 => h9) rfl (by decide +kernel) rfl rfl (Nat.le_of_ble_eq_true rfl) dX5_end_2 (fun H locs hP hD hS => ?_)
  obtain ⟨hP, hD⟩ := kx_re (w2 := [kx_5 h0 g_row m_n m_slots 0 g_many g_loss g_less g_voteValue g_voteNumber g_allValue g_allNumber m_allMany g_nodeL g_nodeR m_nodes g_part m_partMany g_wasMany g_wasLoss g_wasValue g_wasNumber g_path m_pathMany g_heavyValue g_heavyTimes m_heavyMany g_fewest g_which g_met m_mostMet]) hP hD rfl
  refine lv_iload_n hx hb dX5_end_5 rfl (lv_at hl 1 rfl) ?_
  refine lv_iconst (v := 0) hx hb dX5_end_6 (by decide) ?_
  refine lv_aload_n hx hb dX5_end_7 rfl (lv_at hl 0 rfl) ?_
  refine va_get (D := (dC, dI)) (ci := 5) (v := .int m_n) (C := RX5) (T := TX5) (N := 30) hx hb hts hi_5 hown hK hP 0 rfl rfl 1 (by decide) hf_84 (fun _ h9 => h9) rfl dX5_end_8 ?_
  have hPc := hP.sub (ws' := []) [] rfl
  have hKc := hK
  refine vp_callSi (W.runS (As := [.int p0, .int 0, .int m_n]) (rest := []) ⟨hx, hb, hml, hown, hts⟩ (c_X5_within l dC dI p0 0 m_n) (va_cwS 3 hts gX5_end_X5_within rfl rfl rfl (by decide +kernel) ⟨Nat.le_of_ble_eq_true rfl, Nat.le_of_ble_eq_true rfl⟩) ⟨fun a U g mk q => by obtain ⟨q0, qP, qK⟩ := q; exact ⟨q0, qP, va_K.moved (u := U) (U := U.calling g mk a) (Vm.Alike.refl U.vm) qK⟩, fun U hU hW => ⟨rfl, by rw [hU]; exact hPc, va_K.moved hW.alike hKc⟩⟩ rfl rfl hl.1 rfl (lv_room (Nat.le_of_ble_eq_true rfl)) dX5_end_11 ⟨Nat.le_of_ble_eq_true rfl, Nat.le_of_ble_eq_true rfl⟩) (fun r_1 w_1 => ?_)
  rcases w_1 with ⟨rfl, w_1⟩ | ⟨rfl, w_1⟩
  · have w_1 : (0 ≤ p0.toInt ∧ p0.toInt ≤ m_n.toInt) := w_1
    refine lv_if_ne (tgt := 19) hx hb dX5_end_14 (by decide) (fun c_2 => ?_) (fun c_2 => ?_)
    · refine lv_aload_n hx hb dX5_end_19 rfl (lv_at hl 0 rfl) ?_
      refine lv_iload_n hx hb dX5_end_20 rfl (lv_at hl 1 rfl) ?_
      refine va_put (D := (dC, dI)) (ci := 5) (v := .int p0) (ty := .int) (C := RX5) (T := TX5) (N := 30) hx hb hts hi_5 tyX5 tyX5_ok nmX5 hown hK hP hD hS 0 rfl rfl 1 (by decide) hf_84 (fun _ h9 => h9) rfl (by decide +kernel) rfl rfl (Nat.le_of_ble_eq_true rfl) dX5_end_21 (fun H locs hP hD hS => ?_)
      obtain ⟨hP, hD⟩ := kx_re (w2 := [kx_5 h0 g_row p0 m_slots 0 g_many g_loss g_less g_voteValue g_voteNumber g_allValue g_allNumber m_allMany g_nodeL g_nodeR m_nodes g_part m_partMany g_wasMany g_wasLoss g_wasValue g_wasNumber g_path m_pathMany g_heavyValue g_heavyTimes m_heavyMany g_fewest g_which g_met m_mostMet]) hP hD rfl
      refine lv_aload_n hx hb dX5_end_24 rfl (lv_at hl 0 rfl) ?_
      refine va_get (D := (dC, dI)) (ci := 5) (v := .int p0) (C := RX5) (T := TX5) (N := 30) hx hb hts hi_5 hown hK hP 0 rfl rfl 1 (by decide) hf_84 (fun _ h9 => h9) rfl dX5_end_25 ?_
      have hP9 := hP
      have hD9 := hD
      have hK9 := hK
      exact W.iret (v := p0) hx hb hr (hlocks := hlocks) (fun t ht hW => ⟨⟨p0, (p0), rfl, Or.inl ⟨by omega, by omega, rfl, rfl⟩, by rw [ht]; exact hP9, va_K.moved hW.alike hK9, hD9⟩, hS.F ht⟩) hS.2.2 dX5_end_28
    · exact absurd c_2 (by decide)
  · have w_1 : (p0.toInt < 0 ∨ m_n.toInt < p0.toInt) := w_1
    refine lv_if_ne (tgt := 19) hx hb dX5_end_14 (by decide) (fun c_3 => ?_) (fun c_3 => ?_)
    · exact absurd c_3 (by decide)
    · refine lv_iconst (v := (-1)) hx hb dX5_end_17 (by decide) ?_
      have hP9 := hP
      have hD9 := hD
      have hK9 := hK
      exact W.iret (v := (-1)) hx hb hr (hlocks := hlocks) (fun t ht hW => ⟨⟨(-1), (m_n), rfl, Or.inr ⟨by omega, rfl, rfl⟩, by rw [ht]; exact hP9, va_K.moved hW.alike hK9, hD9⟩, hS.F ht⟩) hS.2.2 dX5_end_18

set_option maxHeartbeats 4000000 in
set_option maxRecDepth 100000 in
theorem c_X5_slots (l : Launch) (dC : Nat → ClassId) (dI : Nat → Nat → Nat) (h0 : Nat) (g_row : Nat) (g_many : Nat) (g_loss : Nat) (g_less : Nat) (g_voteValue : Nat) (g_voteNumber : Nat) (g_allValue : Nat) (g_allNumber : Nat) (g_nodeL : Nat) (g_nodeR : Nat) (g_part : Nat) (g_wasMany : Nat) (g_wasLoss : Nat) (g_wasValue : Nat) (g_wasNumber : Nat) (g_path : Nat) (g_heavyValue : Nat) (g_heavyTimes : Nat) (g_fewest : Nat) (g_which : Nat) (g_met : Nat) (m_n : Int32) (m_slots : Int32) (m_thrown : Int32) (m_allMany : Int32) (m_nodes : Int32) (m_partMany : Int32) (m_pathMany : Int32) (m_heavyMany : Int32) (m_mostMet : Int32) (p0 : Int32) (sz : Nat) : kx_MQ l (dC, dI) yX5_slots wsX5_slots ({ frames := 1, cells := 0, slots := 0, locals := 45 }) [.ref h0, .int p0] [kx_5 h0 g_row m_n m_slots m_thrown g_many g_loss g_less g_voteValue g_voteNumber g_allValue g_allNumber m_allMany g_nodeL g_nodeR m_nodes g_part m_partMany g_wasMany g_wasLoss g_wasValue g_wasNumber g_path m_pathMany g_heavyValue g_heavyTimes m_heavyMany g_fewest g_which g_met m_mostMet] [] sz (fun A => va_Qi (fun (r : Int32) (u : Int32) => ((1 ≤ p0.toInt ∧ p0.toInt ≤ 6 ∧ r = m_slots ∧ u = p0) ∨ ((p0.toInt < 1 ∨ 6 < p0.toInt) ∧ r = -1 ∧ u = m_slots))) (fun (u : Int32) (t : State) => va_P (dC, dI) vwCl [kx_5 h0 g_row m_n u 0 g_many g_loss g_less g_voteValue g_voteNumber g_allValue g_allNumber m_allMany g_nodeL g_nodeR m_nodes g_part m_partMany g_wasMany g_wasLoss g_wasValue g_wasNumber g_path m_pathMany g_heavyValue g_heavyTimes m_heavyMany g_fewest g_which g_met m_mostMet] t.heap ∧ va_K (dC, dI) vwCl [] t ∧ va_D A [kx_5 h0 g_row m_n u 0 g_many g_loss g_less g_voteValue g_voteNumber g_allValue g_allNumber m_allMany g_nodeL g_nodeR m_nodes g_part m_partMany g_wasMany g_wasLoss g_wasValue g_wasNumber g_path m_pathMany g_heavyValue g_heavyTimes m_heavyMany g_fewest g_which g_met m_mostMet]) A) := by
  refine kx_stQ (ws := wsX5_slots) (cc := cX5_slots) (maxL := 3) (ret := (some .int)) (by decide) rfl (Nat.le_of_ble_eq_true rfl) ?_
  intro p e s m below meth c A ls hx hb hr hlocks hts hown hml hA hS hP hK hD hl
  have hown : s.vm.findClass RX5 = some m.cls := hown
  have hl : lv_has ls 3 [(0, .ref h0), (1, .int p0)] := hl
  have hf_77 := hts (.fieldLink RX5 77 "MajorityIndexModel" "thrown" "I") (List.mem_of_getElem? (i := 1) rfl)
  have hi_5 : ∀ w ∈ u_ws RX5 TX5 30, w ∈ wsX5_slots := fun w h => List.mem_cons_of_mem _ (List.mem_append_right _ h)
  have hf_13 := hts (.fieldLink RX5 13 "MajorityIndexModel" "slots" "I") (List.mem_of_getElem? (i := 2) rfl)
  refine lv_aload_n hx hb dX5_slots_0 rfl (lv_at hl 0 rfl) ?_
  refine lv_iconst (v := 0) hx hb dX5_slots_1 (by decide) ?_
  refine va_put (D := (dC, dI)) (ci := 5) (v := .int 0) (ty := .int) (C := RX5) (T := TX5) (N := 30) hx hb hts hi_5 tyX5 tyX5_ok nmX5 hown hK hP hD hS 0 rfl rfl 3 (by decide) hf_77 (fun _ h9 => h9) rfl (by decide +kernel) rfl rfl (Nat.le_of_ble_eq_true rfl) dX5_slots_2 (fun H locs hP hD hS => ?_)
  obtain ⟨hP, hD⟩ := kx_re (w2 := [kx_5 h0 g_row m_n m_slots 0 g_many g_loss g_less g_voteValue g_voteNumber g_allValue g_allNumber m_allMany g_nodeL g_nodeR m_nodes g_part m_partMany g_wasMany g_wasLoss g_wasValue g_wasNumber g_path m_pathMany g_heavyValue g_heavyTimes m_heavyMany g_fewest g_which g_met m_mostMet]) hP hD rfl
  refine lv_iload_n hx hb dX5_slots_5 rfl (lv_at hl 1 rfl) ?_
  refine lv_iconst (v := 1) hx hb dX5_slots_6 (by decide) ?_
  refine lv_bipush (v := 6) hx hb dX5_slots_7 (by decide) ?_
  have hPc := hP.sub (ws' := []) [] rfl
  have hKc := hK
  refine vp_callSi (W.runS (As := [.int p0, .int 1, .int 6]) (rest := []) ⟨hx, hb, hml, hown, hts⟩ (c_X5_within l dC dI p0 1 6) (va_cwS 3 hts gX5_slots_X5_within rfl rfl rfl (by decide +kernel) ⟨Nat.le_of_ble_eq_true rfl, Nat.le_of_ble_eq_true rfl⟩) ⟨fun a U g mk q => by obtain ⟨q0, qP, qK⟩ := q; exact ⟨q0, qP, va_K.moved (u := U) (U := U.calling g mk a) (Vm.Alike.refl U.vm) qK⟩, fun U hU hW => ⟨rfl, by rw [hU]; exact hPc, va_K.moved hW.alike hKc⟩⟩ rfl rfl hl.1 rfl (lv_room (Nat.le_of_ble_eq_true rfl)) dX5_slots_9 ⟨Nat.le_of_ble_eq_true rfl, Nat.le_of_ble_eq_true rfl⟩) (fun r_1 w_1 => ?_)
  rcases w_1 with ⟨rfl, w_1⟩ | ⟨rfl, w_1⟩
  · have w_1 : (1 ≤ p0.toInt ∧ p0.toInt ≤ 6) := w_1
    refine lv_if_ne (tgt := 17) hx hb dX5_slots_12 (by decide) (fun c_2 => ?_) (fun c_2 => ?_)
    · refine lv_aload_n hx hb dX5_slots_17 rfl (lv_at hl 0 rfl) ?_
      refine va_get (D := (dC, dI)) (ci := 5) (v := .int m_slots) (C := RX5) (T := TX5) (N := 30) hx hb hts hi_5 hown hK hP 0 rfl rfl 2 (by decide) hf_13 (fun _ h9 => h9) rfl dX5_slots_18 ?_
      refine lv_istore_n (lv' := [(2, .int m_slots), (0, .ref h0), (1, .int p0)]) hx hb dX5_slots_21 rfl hl (by decide) rfl (fun ls hl => ?_)
      refine lv_aload_n hx hb dX5_slots_22 rfl (lv_at hl 1 rfl) ?_
      refine lv_iload_n hx hb dX5_slots_23 rfl (lv_at hl 2 rfl) ?_
      refine va_put (D := (dC, dI)) (ci := 5) (v := .int p0) (ty := .int) (C := RX5) (T := TX5) (N := 30) hx hb hts hi_5 tyX5 tyX5_ok nmX5 hown hK hP hD hS 0 rfl rfl 2 (by decide) hf_13 (fun _ h9 => h9) rfl (by decide +kernel) rfl rfl (Nat.le_of_ble_eq_true rfl) dX5_slots_24 (fun H locs hP hD hS => ?_)
      obtain ⟨hP, hD⟩ := kx_re (w2 := [kx_5 h0 g_row m_n p0 0 g_many g_loss g_less g_voteValue g_voteNumber g_allValue g_allNumber m_allMany g_nodeL g_nodeR m_nodes g_part m_partMany g_wasMany g_wasLoss g_wasValue g_wasNumber g_path m_pathMany g_heavyValue g_heavyTimes m_heavyMany g_fewest g_which g_met m_mostMet]) hP hD rfl
      refine lv_iload_n hx hb dX5_slots_27 rfl (lv_at hl 0 rfl) ?_
      have hP9 := hP
      have hD9 := hD
      have hK9 := hK
      exact W.iret (v := m_slots) hx hb hr (hlocks := hlocks) (fun t ht hW => ⟨⟨m_slots, (p0), rfl, Or.inl ⟨by omega, by omega, rfl, rfl⟩, by rw [ht]; exact hP9, va_K.moved hW.alike hK9, hD9⟩, hS.F ht⟩) hS.2.2 dX5_slots_28
    · exact absurd c_2 (by decide)
  · have w_1 : (p0.toInt < 1 ∨ 6 < p0.toInt) := w_1
    refine lv_if_ne (tgt := 17) hx hb dX5_slots_12 (by decide) (fun c_3 => ?_) (fun c_3 => ?_)
    · exact absurd c_3 (by decide)
    · refine lv_iconst (v := (-1)) hx hb dX5_slots_15 (by decide) ?_
      have hP9 := hP
      have hD9 := hD
      have hK9 := hK
      exact W.iret (v := (-1)) hx hb hr (hlocks := hlocks) (fun t ht hW => ⟨⟨(-1), (m_slots), rfl, Or.inr ⟨by omega, rfl, rfl⟩, by rw [ht]; exact hP9, va_K.moved hW.alike hK9, hD9⟩, hS.F ht⟩) hS.2.2 dX5_slots_16

set_option maxHeartbeats 4000000 in
set_option maxRecDepth 100000 in
theorem c_X5_insert (l : Launch) (dC : Nat → ClassId) (dI : Nat → Nat → Nat) (h0 : Nat) (g_row : Nat) (g_many : Nat) (g_loss : Nat) (g_less : Nat) (g_voteValue : Nat) (g_voteNumber : Nat) (g_allValue : Nat) (g_allNumber : Nat) (g_nodeL : Nat) (g_nodeR : Nat) (g_part : Nat) (g_wasMany : Nat) (g_wasLoss : Nat) (g_wasValue : Nat) (g_wasNumber : Nat) (g_path : Nat) (g_heavyValue : Nat) (g_heavyTimes : Nat) (g_fewest : Nat) (g_which : Nat) (g_met : Nat) (m_n : Int32) (m_slots : Int32) (m_thrown : Int32) (m_allMany : Int32) (m_nodes : Int32) (m_partMany : Int32) (m_pathMany : Int32) (m_heavyMany : Int32) (m_mostMet : Int32) (cyI : ClassId) (f : Nat → Int32) (p0 : Int32) (p1 : Int32) (sz : Nat) (a0 : 0 ≤ m_n.toInt) (a1 : m_n.toInt ≤ 160) (s1 : shorts f) : kx_MQ l (dC, dI) yX5_insert wsX5_insert ({ frames := 2, cells := 0, slots := 0, locals := 90 }) [.ref h0, .int p0, .int p1] [kx_5 h0 g_row m_n m_slots m_thrown g_many g_loss g_less g_voteValue g_voteNumber g_allValue g_allNumber m_allMany g_nodeL g_nodeR m_nodes g_part m_partMany g_wasMany g_wasLoss g_wasValue g_wasNumber g_path m_pathMany g_heavyValue g_heavyTimes m_heavyMany g_fewest g_which g_met m_mostMet, kx_a g_row cyI 160 f] [(cyI, .int)] sz (fun A => va_Qi (fun (r : Int32) (u : Int32 × (Nat → Int32)) => ((0 ≤ p0.toInt ∧ p0.toInt ≤ m_n.toInt ∧ -32768 ≤ p1.toInt ∧ p1.toInt ≤ 32767 ∧ m_n.toInt < 160 ∧ r = u.1 ∧ u.1.toInt = m_n.toInt + 1 ∧ u.2 = upd (shR f m_n.toNatClampNeg p0.toNatClampNeg) p0.toNatClampNeg p1) ∨ ((p0.toInt < 0 ∨ m_n.toInt < p0.toInt ∨ p1.toInt < -32768 ∨ 32767 < p1.toInt ∨ 160 ≤ m_n.toInt) ∧ r = -1 ∧ u.1 = m_n ∧ u.2 = f)) ∧ shorts u.2) (fun (u : Int32 × (Nat → Int32)) (t : State) => va_P (dC, dI) vwCl [kx_5 h0 g_row u.1 m_slots 0 g_many g_loss g_less g_voteValue g_voteNumber g_allValue g_allNumber m_allMany g_nodeL g_nodeR m_nodes g_part m_partMany g_wasMany g_wasLoss g_wasValue g_wasNumber g_path m_pathMany g_heavyValue g_heavyTimes m_heavyMany g_fewest g_which g_met m_mostMet, kx_a g_row cyI 160 u.2] t.heap ∧ va_K (dC, dI) vwCl [(cyI, .int)] t ∧ va_D A [kx_5 h0 g_row u.1 m_slots 0 g_many g_loss g_less g_voteValue g_voteNumber g_allValue g_allNumber m_allMany g_nodeL g_nodeR m_nodes g_part m_partMany g_wasMany g_wasLoss g_wasValue g_wasNumber g_path m_pathMany g_heavyValue g_heavyTimes m_heavyMany g_fewest g_which g_met m_mostMet, kx_a g_row cyI 160 u.2]) A) := by
  refine kx_stQ (ws := wsX5_insert) (cc := cX5_insert) (maxL := 4) (ret := (some .int)) (by decide) rfl (Nat.le_of_ble_eq_true rfl) ?_
  intro p e s m below meth c A ls hx hb hr hlocks hts hown hml hA hS hP hK hD hl
  have hown : s.vm.findClass RX5 = some m.cls := hown
  have hl : lv_has ls 4 [(0, .ref h0), (1, .int p0), (2, .int p1)] := hl
  have hf_77 := hts (.fieldLink RX5 77 "MajorityIndexModel" "thrown" "I") (List.mem_of_getElem? (i := 1) rfl)
  have hi_5 : ∀ w ∈ u_ws RX5 TX5 30, w ∈ wsX5_insert := fun w h => List.mem_cons_of_mem _ (List.mem_append_right _ h)
  have hf_84 := hts (.fieldLink RX5 84 "MajorityIndexModel" "n" "I") (List.mem_of_getElem? (i := 2) rfl)
  have hf_7 := hts (.fieldLink RX5 7 "MajorityIndexModel" "row" "[I") (List.mem_of_getElem? (i := 3) rfl)
  refine lv_aload_n hx hb dX5_insert_0 rfl (lv_at hl 0 rfl) ?_
  refine lv_iconst (v := 0) hx hb dX5_insert_1 (by decide) ?_
  refine va_put (D := (dC, dI)) (ci := 5) (v := .int 0) (ty := .int) (C := RX5) (T := TX5) (N := 30) hx hb hts hi_5 tyX5 tyX5_ok nmX5 hown hK hP hD hS 0 rfl rfl 3 (by decide) hf_77 (fun _ h9 => h9) rfl (by decide +kernel) rfl rfl (Nat.le_of_ble_eq_true rfl) dX5_insert_2 (fun H locs hP hD hS => ?_)
  obtain ⟨hP, hD⟩ := kx_re (w2 := [kx_5 h0 g_row m_n m_slots 0 g_many g_loss g_less g_voteValue g_voteNumber g_allValue g_allNumber m_allMany g_nodeL g_nodeR m_nodes g_part m_partMany g_wasMany g_wasLoss g_wasValue g_wasNumber g_path m_pathMany g_heavyValue g_heavyTimes m_heavyMany g_fewest g_which g_met m_mostMet, kx_a g_row cyI 160 f]) hP hD rfl
  refine lv_iload_n hx hb dX5_insert_5 rfl (lv_at hl 1 rfl) ?_
  refine lv_iconst (v := 0) hx hb dX5_insert_6 (by decide) ?_
  refine lv_aload_n hx hb dX5_insert_7 rfl (lv_at hl 0 rfl) ?_
  refine va_get (D := (dC, dI)) (ci := 5) (v := .int m_n) (C := RX5) (T := TX5) (N := 30) hx hb hts hi_5 hown hK hP 0 rfl rfl 1 (by decide) hf_84 (fun _ h9 => h9) rfl dX5_insert_8 ?_
  have hPc := hP.sub (ws' := []) [] rfl
  have hKc := hK.sub (tys' := []) [] rfl
  refine vp_callSi (W.runS (As := [.int p0, .int 0, .int m_n]) (rest := []) ⟨hx, hb, hml, hown, hts⟩ (c_X5_within l dC dI p0 0 m_n) (va_cwS 3 hts gX5_insert_X5_within rfl rfl rfl (by decide +kernel) ⟨Nat.le_of_ble_eq_true rfl, Nat.le_of_ble_eq_true rfl⟩) ⟨fun a U g mk q => by obtain ⟨q0, qP, qK⟩ := q; exact ⟨q0, qP, va_K.moved (u := U) (U := U.calling g mk a) (Vm.Alike.refl U.vm) qK⟩, fun U hU hW => ⟨rfl, by rw [hU]; exact hPc, va_K.moved hW.alike hKc⟩⟩ rfl rfl hl.1 rfl (lv_room (Nat.le_of_ble_eq_true rfl)) dX5_insert_11 ⟨Nat.le_of_ble_eq_true rfl, Nat.le_of_ble_eq_true rfl⟩) (fun r_1 w_1 => ?_)
  rcases w_1 with ⟨rfl, w_1⟩ | ⟨rfl, w_1⟩
  · have w_1 : (0 ≤ p0.toInt ∧ p0.toInt ≤ m_n.toInt) := w_1
    refine lv_if_eq (tgt := 34) hx hb dX5_insert_14 (by decide) (fun c_2 => ?_) (fun c_2 => ?_)
    · exact absurd c_2 (by decide)
    · refine lv_iload_n hx hb dX5_insert_17 rfl (lv_at hl 2 rfl) ?_
      have hPc := hP.sub (ws' := []) [] rfl
      have hKc := hK.sub (tys' := []) [] rfl
      refine vp_callSi (W.runS (As := [.int p1]) (rest := []) ⟨hx, hb, hml, hown, hts⟩ (c_X5_isValue l dC dI p1) (va_cwS 1 hts gX5_insert_X5_isValue rfl rfl rfl (by decide +kernel) ⟨Nat.le_of_ble_eq_true rfl, Nat.le_of_ble_eq_true rfl⟩) ⟨fun a U g mk q => by obtain ⟨q0, qP, qK⟩ := q; exact ⟨q0, qP, va_K.moved (u := U) (U := U.calling g mk a) (Vm.Alike.refl U.vm) qK⟩, fun U hU hW => ⟨rfl, by rw [hU]; exact hPc, va_K.moved hW.alike hKc⟩⟩ rfl rfl hl.1 rfl (lv_room (Nat.le_of_ble_eq_true rfl)) dX5_insert_18 ⟨Nat.le_of_ble_eq_true rfl, Nat.le_of_ble_eq_true rfl⟩) (fun r_3 w_3 => ?_)
      rcases w_3 with ⟨rfl, w_3⟩ | ⟨rfl, w_3⟩
      · have w_3 : (-32768 ≤ p1.toInt ∧ p1.toInt ≤ 32767) := w_3
        refine lv_if_eq (tgt := 34) hx hb dX5_insert_21 (by decide) (fun c_4 => ?_) (fun c_4 => ?_)
        · exact absurd c_4 (by decide)
        · refine lv_aload_n hx hb dX5_insert_24 rfl (lv_at hl 0 rfl) ?_
          refine va_get (D := (dC, dI)) (ci := 5) (v := .int m_n) (C := RX5) (T := TX5) (N := 30) hx hb hts hi_5 hown hK hP 0 rfl rfl 1 (by decide) hf_84 (fun _ h9 => h9) rfl dX5_insert_25 ?_
          refine lv_sipush (v := 160) hx hb dX5_insert_28 (by decide) ?_
          refine lv_icmp_ne (tgt := 36) hx hb dX5_insert_31 (by decide) (fun c_5 => ?_) (fun c_5 => ?_)
          · have i_5 : ¬ m_n.toInt = 160 := kc_ne c_5
            refine lv_aload_n hx hb dX5_insert_36 rfl (lv_at hl 0 rfl) ?_
            refine va_get (D := (dC, dI)) (ci := 5) (v := .int m_n) (C := RX5) (T := TX5) (N := 30) hx hb hts hi_5 hown hK hP 0 rfl rfl 1 (by decide) hf_84 (fun _ h9 => h9) rfl dX5_insert_37 ?_
            refine lv_istore_n (lv' := [(3, .int m_n), (0, .ref h0), (1, .int p0), (2, .int p1)]) hx hb dX5_insert_40 rfl hl (by decide) rfl (fun ls hl => ?_)
            have LP1 : ∀ (n : Nat) (i : Int32) (fc : Nat → Int32), (p0.toInt ≤ i.toInt) → (i.toInt ≤ m_n.toInt) → (fc = shR f m_n.toNatClampNeg i.toNatClampNeg) → (i.toInt).toNat < n → ∀ (H : Heap) (locs : List Loc), va_P (dC, dI) vwCl [kx_5 h0 g_row m_n m_slots 0 g_many g_loss g_less g_voteValue g_voteNumber g_allValue g_allNumber m_allMany g_nodeL g_nodeR m_nodes g_part m_partMany g_wasMany g_wasLoss g_wasValue g_wasNumber g_path m_pathMany g_heavyValue g_heavyTimes m_heavyMany g_fewest g_which g_met m_mostMet, kx_a g_row cyI 160 fc] H → va_D A [kx_5 h0 g_row m_n m_slots 0 g_many g_loss g_less g_voteValue g_voteNumber g_allValue g_allNumber m_allMany g_nodeL g_nodeR m_nodes g_part m_partMany g_wasMany g_wasLoss g_wasValue g_wasNumber g_path m_pathMany g_heavyValue g_heavyTimes m_heavyMany g_fewest g_which g_met m_mostMet, kx_a g_row cyI 160 fc] → va_S A s.heap H locs → ∀ (ls : Array Slot), lv_has ls 4 [(3, .int i), (0, .ref h0), (1, .int p0), (2, .int p1)] → W p l e (headSpec wsX5_insert ({ frames := 2, cells := 0, slots := 0, locals := 90 })).room s m ([.ref h0, .int p0, .int p1] : List Value).toArray below meth c H locs 0 0 (MQ below (va_Qi (fun (r : Int32) (u : Int32 × (Nat → Int32)) => ((0 ≤ p0.toInt ∧ p0.toInt ≤ m_n.toInt ∧ -32768 ≤ p1.toInt ∧ p1.toInt ≤ 32767 ∧ m_n.toInt < 160 ∧ r = u.1 ∧ u.1.toInt = m_n.toInt + 1 ∧ u.2 = upd (shR f m_n.toNatClampNeg p0.toNatClampNeg) p0.toNatClampNeg p1) ∨ ((p0.toInt < 0 ∨ m_n.toInt < p0.toInt ∨ p1.toInt < -32768 ∨ 32767 < p1.toInt ∨ 160 ≤ m_n.toInt) ∧ r = -1 ∧ u.1 = m_n ∧ u.2 = f)) ∧ shorts u.2) (fun (u : Int32 × (Nat → Int32)) (t : State) => va_P (dC, dI) vwCl [kx_5 h0 g_row u.1 m_slots 0 g_many g_loss g_less g_voteValue g_voteNumber g_allValue g_allNumber m_allMany g_nodeL g_nodeR m_nodes g_part m_partMany g_wasMany g_wasLoss g_wasValue g_wasNumber g_path m_pathMany g_heavyValue g_heavyTimes m_heavyMany g_fewest g_which g_met m_mostMet, kx_a g_row cyI 160 u.2] t.heap ∧ va_K (dC, dI) vwCl [(cyI, .int)] t ∧ va_D A [kx_5 h0 g_row u.1 m_slots 0 g_many g_loss g_less g_voteValue g_voteNumber g_allValue g_allNumber m_allMany g_nodeL g_nodeR m_nodes g_part m_partMany g_wasMany g_wasLoss g_wasValue g_wasNumber g_path m_pathMany g_heavyValue g_heavyTimes m_heavyMany g_fewest g_which g_met m_mostMet, kx_a g_row cyI 160 u.2]) A) ([.ref h0, .int p0, .int p1] : List Value).toArray s 0 0 A) (F0 m 41 ls []) := by
              intro n
              induction n with
              | zero => intro i fc LP1_h0 LP1_h1 LP1_h2 hn; exact absurd hn (Nat.not_lt_zero _)
              | succ n ih1 =>
                intro i fc LP1_h0 LP1_h1 LP1_h2 hn1 H locs hP hD hS ls hl
                have n_i := ki_nat i rfl (by omega)
                have n_l := ki_nat m_n rfl (by omega)
                refine lv_iload_n hx hb dX5_insert_41 rfl (lv_at hl 0 rfl) ?_
                refine lv_iload_n hx hb dX5_insert_42 rfl (lv_at hl 2 rfl) ?_
                refine lv_icmp_le (tgt := 66) hx hb dX5_insert_43 (by decide) (fun c_6 => ?_) (fun c_6 => ?_)
                · have i_6 : i.toInt ≤ p0.toInt := kc_le c_6
                  refine lv_aload_n hx hb dX5_insert_66 rfl (lv_at hl 1 rfl) ?_
                  refine va_get (D := (dC, dI)) (ci := 5) (v := .ref g_row) (C := RX5) (T := TX5) (N := 30) hx hb hts hi_5 hown hK hP 0 rfl rfl 0 (by decide) hf_7 (fun _ h9 => h9) rfl dX5_insert_67 ?_
                  refine lv_iload_n hx hb dX5_insert_70 rfl (lv_at hl 2 rfl) ?_
                  refine lv_iload_n hx hb dX5_insert_71 rfl (lv_at hl 3 rfl) ?_
                  refine va_iast hx hb hK hP hD hS 1 0 rfl rfl (ki_in (om_10 w_1.1) (by omega)) dX5_insert_72 (fun H locs hP hD hS => ?_)
                  obtain ⟨hP, hD⟩ := kx_re (w2 := [kx_5 h0 g_row m_n m_slots 0 g_many g_loss g_less g_voteValue g_voteNumber g_allValue g_allNumber m_allMany g_nodeL g_nodeR m_nodes g_part m_partMany g_wasMany g_wasLoss g_wasValue g_wasNumber g_path m_pathMany g_heavyValue g_heavyTimes m_heavyMany g_fewest g_which g_met m_mostMet, kx_a g_row cyI 160 (upd fc p0.toNatClampNeg p1)]) hP hD rfl
                  refine lv_aload_n hx hb dX5_insert_73 rfl (lv_at hl 1 rfl) ?_
                  refine lv_dup hx hb dX5_insert_74 rfl ?_
                  refine va_get (D := (dC, dI)) (ci := 5) (v := .int m_n) (C := RX5) (T := TX5) (N := 30) hx hb hts hi_5 hown hK hP 0 rfl rfl 1 (by decide) hf_84 (fun _ h9 => h9) rfl dX5_insert_75 ?_
                  refine lv_iconst (v := 1) hx hb dX5_insert_78 (by decide) ?_
                  refine lv_iadd hx hb dX5_insert_79 ?_
                  refine lv_topi (fun y_7 ey_7 => ?_)
                  have i_7 : y_7.toInt = m_n.toInt + 1 := ki_add ey_7 rfl rfl (om_13 a0) (om_192 a1)
                  refine va_put (D := (dC, dI)) (ci := 5) (v := .int y_7) (ty := .int) (C := RX5) (T := TX5) (N := 30) hx hb hts hi_5 tyX5 tyX5_ok nmX5 hown hK hP hD hS 0 rfl rfl 1 (by decide) hf_84 (fun _ h9 => h9) rfl (by decide +kernel) rfl rfl (Nat.le_of_ble_eq_true rfl) dX5_insert_80 (fun H locs hP hD hS => ?_)
                  obtain ⟨hP, hD⟩ := kx_re (w2 := [kx_5 h0 g_row y_7 m_slots 0 g_many g_loss g_less g_voteValue g_voteNumber g_allValue g_allNumber m_allMany g_nodeL g_nodeR m_nodes g_part m_partMany g_wasMany g_wasLoss g_wasValue g_wasNumber g_path m_pathMany g_heavyValue g_heavyTimes m_heavyMany g_fewest g_which g_met m_mostMet, kx_a g_row cyI 160 (upd fc p0.toNatClampNeg p1)]) hP hD rfl
                  refine lv_aload_n hx hb dX5_insert_83 rfl (lv_at hl 1 rfl) ?_
                  refine va_get (D := (dC, dI)) (ci := 5) (v := .int y_7) (C := RX5) (T := TX5) (N := 30) hx hb hts hi_5 hown hK hP 0 rfl rfl 1 (by decide) hf_84 (fun _ h9 => h9) rfl dX5_insert_84 ?_
                  have hP9 := hP
                  have hD9 := hD
                  have hK9 := hK
                  have q_f : upd fc p0.toNatClampNeg p1 = upd (shR f m_n.toNatClampNeg p0.toNatClampNeg) p0.toNatClampNeg p1 := by rw [LP1_h2, ki_nateq (show i.toInt = p0.toInt by omega)]
                  exact W.iret (v := y_7) hx hb hr (hlocks := hlocks) (fun t ht hW => ⟨⟨y_7, (y_7, (upd fc p0.toNatClampNeg p1)), rfl, ⟨Or.inl ⟨by omega, by omega, by omega, by omega, by omega, rfl, (by (try dsimp only); omega), q_f⟩, (by (try dsimp only); rw [q_f]; exact shorts_upd (shorts_shR s1) (by omega) (by omega))⟩, by rw [ht]; exact hP9, va_K.moved hW.alike hK9, hD9⟩, hS.F ht⟩) hS.2.2 dX5_insert_87
                · have i_6 : p0.toInt < i.toInt := kc_nle c_6
                  refine lv_aload_n hx hb dX5_insert_46 rfl (lv_at hl 1 rfl) ?_
                  refine va_get (D := (dC, dI)) (ci := 5) (v := .ref g_row) (C := RX5) (T := TX5) (N := 30) hx hb hts hi_5 hown hK hP 0 rfl rfl 0 (by decide) hf_7 (fun _ h9 => h9) rfl dX5_insert_47 ?_
                  refine lv_iload_n hx hb dX5_insert_50 rfl (lv_at hl 0 rfl) ?_
                  refine lv_aload_n hx hb dX5_insert_51 rfl (lv_at hl 1 rfl) ?_
                  refine va_get (D := (dC, dI)) (ci := 5) (v := .ref g_row) (C := RX5) (T := TX5) (N := 30) hx hb hts hi_5 hown hK hP 0 rfl rfl 0 (by decide) hf_7 (fun _ h9 => h9) rfl dX5_insert_52 ?_
                  refine lv_iload_n hx hb dX5_insert_55 rfl (lv_at hl 0 rfl) ?_
                  refine lv_iconst (v := 1) hx hb dX5_insert_56 (by decide) ?_
                  refine lv_isub hx hb dX5_insert_57 ?_
                  refine lv_topi (fun y_8 ey_8 => ?_)
                  have i_8 : y_8.toInt = i.toInt - 1 := ki_sub ey_8 rfl rfl (om_17 w_1.1 i_6) (om_183 a1 LP1_h1)
                  refine va_iald hx hb hK hP 1 0 rfl rfl (ki_in (om_19 w_1.1 i_6 i_8) (om_232 a1 LP1_h1 i_8)) dX5_insert_58 ?_
                  refine lv_topi (fun y_9 ey_9 => ?_)
                  have j_9 : y_9.toInt = (fc y_8.toNatClampNeg).toInt := congrArg Int32.toInt ey_9
                  refine va_iast hx hb hK hP hD hS 1 0 rfl rfl (ki_in (om_21 w_1.1 i_6) (by omega)) dX5_insert_59 (fun H locs hP hD hS => ?_)
                  obtain ⟨hP, hD⟩ := kx_re (w2 := [kx_5 h0 g_row m_n m_slots 0 g_many g_loss g_less g_voteValue g_voteNumber g_allValue g_allNumber m_allMany g_nodeL g_nodeR m_nodes g_part m_partMany g_wasMany g_wasLoss g_wasValue g_wasNumber g_path m_pathMany g_heavyValue g_heavyTimes m_heavyMany g_fewest g_which g_met m_mostMet, kx_a g_row cyI 160 (upd fc i.toNatClampNeg y_9)]) hP hD rfl
                  obtain ⟨x_10, ex_10⟩ : ∃ y : Int32, y = i + (-1) := ⟨_, rfl⟩
                  have i_10 : x_10.toInt = i.toInt + (-1) := ki_add ex_10 rfl rfl (om_23 w_1.1 i_6) (om_233 a1 LP1_h1)
                  refine lv_iinc (v := x_10) (lv' := [(3, .int x_10), (0, .ref h0), (1, .int p0), (2, .int p1)]) hx hb dX5_insert_60 hl (k := 0) rfl (by rw [ex_10]; rfl) (by decide) rfl (fun ls hl => ?_)
                  refine lv_goto (tgt := 41) hx hb dX5_insert_63 (by decide) ?_
                  have n_y := ki_nat y_8 rfl (by omega)
                  have n_x := ki_nat x_10 rfl (by omega)
                  exact ih1 x_10 (upd fc i.toNatClampNeg y_9) (om_25 i_6 i_10) (om_26 LP1_h1 i_10) (by rw [ey_9, LP1_h2]; exact shR_step (by omega) (by omega) (by omega)) (om_mu hn1 (om_27 i_10) (om_28 w_1.1 i_6)) _ _ hP hD hS ls (lv_sub hl [0, 1, 2, 3] rfl)
            exact LP1 ((m_n.toInt : Int).toNat + 1) m_n f (om_9 w_1.2) om_7 (shR_self _ _).symm (Nat.lt_succ_self _) _ _ hP hD hS ls (lv_sub hl [0, 1, 2, 3] rfl)
          · have i_5 : m_n.toInt = 160 := kc_eq c_5
            refine lv_iconst (v := (-1)) hx hb dX5_insert_34 (by decide) ?_
            have hP9 := hP
            have hD9 := hD
            have hK9 := hK
            exact W.iret (v := (-1)) hx hb hr (hlocks := hlocks) (fun t ht hW => ⟨⟨(-1), (m_n, f), rfl, ⟨Or.inr ⟨by omega, rfl, rfl, rfl⟩, s1⟩, by rw [ht]; exact hP9, va_K.moved hW.alike hK9, hD9⟩, hS.F ht⟩) hS.2.2 dX5_insert_35
      · have w_3 : (p1.toInt < -32768 ∨ 32767 < p1.toInt) := w_3
        refine lv_if_eq (tgt := 34) hx hb dX5_insert_21 (by decide) (fun c_11 => ?_) (fun c_11 => ?_)
        · refine lv_iconst (v := (-1)) hx hb dX5_insert_34 (by decide) ?_
          have hP9 := hP
          have hD9 := hD
          have hK9 := hK
          exact W.iret (v := (-1)) hx hb hr (hlocks := hlocks) (fun t ht hW => ⟨⟨(-1), (m_n, f), rfl, ⟨Or.inr ⟨by omega, rfl, rfl, rfl⟩, s1⟩, by rw [ht]; exact hP9, va_K.moved hW.alike hK9, hD9⟩, hS.F ht⟩) hS.2.2 dX5_insert_35
        · exact absurd c_11 (by decide)
  · have w_1 : (p0.toInt < 0 ∨ m_n.toInt < p0.toInt) := w_1
    refine lv_if_eq (tgt := 34) hx hb dX5_insert_14 (by decide) (fun c_12 => ?_) (fun c_12 => ?_)
    · refine lv_iconst (v := (-1)) hx hb dX5_insert_34 (by decide) ?_
      have hP9 := hP
      have hD9 := hD
      have hK9 := hK
      exact W.iret (v := (-1)) hx hb hr (hlocks := hlocks) (fun t ht hW => ⟨⟨(-1), (m_n, f), rfl, ⟨Or.inr ⟨by omega, rfl, rfl, rfl⟩, s1⟩, by rw [ht]; exact hP9, va_K.moved hW.alike hK9, hD9⟩, hS.F ht⟩) hS.2.2 dX5_insert_35
    · exact absurd c_12 (by decide)

set_option maxHeartbeats 4000000 in
set_option maxRecDepth 100000 in
theorem c_X5_remove (l : Launch) (dC : Nat → ClassId) (dI : Nat → Nat → Nat) (h0 : Nat) (g_row : Nat) (g_many : Nat) (g_loss : Nat) (g_less : Nat) (g_voteValue : Nat) (g_voteNumber : Nat) (g_allValue : Nat) (g_allNumber : Nat) (g_nodeL : Nat) (g_nodeR : Nat) (g_part : Nat) (g_wasMany : Nat) (g_wasLoss : Nat) (g_wasValue : Nat) (g_wasNumber : Nat) (g_path : Nat) (g_heavyValue : Nat) (g_heavyTimes : Nat) (g_fewest : Nat) (g_which : Nat) (g_met : Nat) (m_n : Int32) (m_slots : Int32) (m_thrown : Int32) (m_allMany : Int32) (m_nodes : Int32) (m_partMany : Int32) (m_pathMany : Int32) (m_heavyMany : Int32) (m_mostMet : Int32) (cyI : ClassId) (f : Nat → Int32) (p0 : Int32) (sz : Nat) (a0 : 0 ≤ m_n.toInt) (a1 : m_n.toInt ≤ 160) (s1 : shorts f) : kx_MQ l (dC, dI) yX5_remove wsX5_remove ({ frames := 2, cells := 0, slots := 0, locals := 90 }) [.ref h0, .int p0] [kx_5 h0 g_row m_n m_slots m_thrown g_many g_loss g_less g_voteValue g_voteNumber g_allValue g_allNumber m_allMany g_nodeL g_nodeR m_nodes g_part m_partMany g_wasMany g_wasLoss g_wasValue g_wasNumber g_path m_pathMany g_heavyValue g_heavyTimes m_heavyMany g_fewest g_which g_met m_mostMet, kx_a g_row cyI 160 f] [(cyI, .int)] sz (fun A => va_Qi (fun (r : Int32) (u : Int32 × (Nat → Int32)) => ((0 ≤ p0.toInt ∧ p0.toInt < m_n.toInt ∧ r = f p0.toNatClampNeg ∧ u.1.toInt = m_n.toInt - 1 ∧ u.2 = shL f p0.toNatClampNeg u.1.toNatClampNeg) ∨ ((p0.toInt < 0 ∨ m_n.toInt ≤ p0.toInt) ∧ r = -40000 ∧ u.1 = m_n ∧ u.2 = f)) ∧ shorts u.2) (fun (u : Int32 × (Nat → Int32)) (t : State) => va_P (dC, dI) vwCl [kx_5 h0 g_row u.1 m_slots 0 g_many g_loss g_less g_voteValue g_voteNumber g_allValue g_allNumber m_allMany g_nodeL g_nodeR m_nodes g_part m_partMany g_wasMany g_wasLoss g_wasValue g_wasNumber g_path m_pathMany g_heavyValue g_heavyTimes m_heavyMany g_fewest g_which g_met m_mostMet, kx_a g_row cyI 160 u.2] t.heap ∧ va_K (dC, dI) vwCl [(cyI, .int)] t ∧ va_D A [kx_5 h0 g_row u.1 m_slots 0 g_many g_loss g_less g_voteValue g_voteNumber g_allValue g_allNumber m_allMany g_nodeL g_nodeR m_nodes g_part m_partMany g_wasMany g_wasLoss g_wasValue g_wasNumber g_path m_pathMany g_heavyValue g_heavyTimes m_heavyMany g_fewest g_which g_met m_mostMet, kx_a g_row cyI 160 u.2]) A) := by
  refine kx_stQ (ws := wsX5_remove) (cc := cX5_remove) (maxL := 4) (ret := (some .int)) (by decide) rfl (Nat.le_of_ble_eq_true rfl) ?_
  intro p e s m below meth c A ls hx hb hr hlocks hts hown hml hA hS hP hK hD hl
  have hown : s.vm.findClass RX5 = some m.cls := hown
  have hl : lv_has ls 4 [(0, .ref h0), (1, .int p0)] := hl
  have hf_77 := hts (.fieldLink RX5 77 "MajorityIndexModel" "thrown" "I") (List.mem_of_getElem? (i := 1) rfl)
  have hi_5 : ∀ w ∈ u_ws RX5 TX5 30, w ∈ wsX5_remove := fun w h => List.mem_cons_of_mem _ (List.mem_append_right _ h)
  have hf_7 := hts (.fieldLink RX5 7 "MajorityIndexModel" "row" "[I") (List.mem_of_getElem? (i := 3) rfl)
  have hf_84 := hts (.fieldLink RX5 84 "MajorityIndexModel" "n" "I") (List.mem_of_getElem? (i := 4) rfl)
  have hk_148 := hts (.constant RX5 148 (-40000)) (List.mem_of_getElem? (i := 2) rfl)
  refine lv_aload_n hx hb dX5_remove_0 rfl (lv_at hl 0 rfl) ?_
  refine lv_iconst (v := 0) hx hb dX5_remove_1 (by decide) ?_
  refine va_put (D := (dC, dI)) (ci := 5) (v := .int 0) (ty := .int) (C := RX5) (T := TX5) (N := 30) hx hb hts hi_5 tyX5 tyX5_ok nmX5 hown hK hP hD hS 0 rfl rfl 3 (by decide) hf_77 (fun _ h9 => h9) rfl (by decide +kernel) rfl rfl (Nat.le_of_ble_eq_true rfl) dX5_remove_2 (fun H locs hP hD hS => ?_)
  obtain ⟨hP, hD⟩ := kx_re (w2 := [kx_5 h0 g_row m_n m_slots 0 g_many g_loss g_less g_voteValue g_voteNumber g_allValue g_allNumber m_allMany g_nodeL g_nodeR m_nodes g_part m_partMany g_wasMany g_wasLoss g_wasValue g_wasNumber g_path m_pathMany g_heavyValue g_heavyTimes m_heavyMany g_fewest g_which g_met m_mostMet, kx_a g_row cyI 160 f]) hP hD rfl
  refine lv_aload_n hx hb dX5_remove_5 rfl (lv_at hl 0 rfl) ?_
  refine lv_iload_n hx hb dX5_remove_6 rfl (lv_at hl 1 rfl) ?_
  have hPc := hP.sub (ws' := [kx_5 h0 g_row m_n m_slots 0 g_many g_loss g_less g_voteValue g_voteNumber g_allValue g_allNumber m_allMany g_nodeL g_nodeR m_nodes g_part m_partMany g_wasMany g_wasLoss g_wasValue g_wasNumber g_path m_pathMany g_heavyValue g_heavyTimes m_heavyMany g_fewest g_which g_met m_mostMet]) [0] rfl
  have hKc := hK.sub (tys' := []) [] rfl
  refine vp_callSi (W.runV (As := [.int p0]) (rest := []) ⟨hx, hb, hml, hown, hts⟩ (c_X5_isPlace l dC dI h0 g_row g_many g_loss g_less g_voteValue g_voteNumber g_allValue g_allNumber g_nodeL g_nodeR g_part g_wasMany g_wasLoss g_wasValue g_wasNumber g_path g_heavyValue g_heavyTimes g_fewest g_which g_met m_n m_slots 0 m_allMany m_nodes m_partMany m_pathMany m_heavyMany m_mostMet p0 a0 a1) (cwV 1 hts gX5_remove_X5_isPlace rfl rfl rfl (by decide +kernel) ⟨Nat.le_of_ble_eq_true rfl, Nat.le_of_ble_eq_true rfl⟩) ⟨fun a U g mk q => by obtain ⟨q0, qP, qK⟩ := q; exact ⟨q0, qP, va_K.moved (u := U) (U := U.calling g mk a) (Vm.Alike.refl U.vm) qK⟩, kx_rc5 hKc hPc (q0 := 0) rfl, fun U hU hW => ⟨rfl, by rw [hU]; exact hPc, va_K.moved hW.alike hKc⟩⟩ rfl rfl hl.1 rfl (lv_room (Nat.le_of_ble_eq_true rfl)) dX5_remove_7 ⟨Nat.le_of_ble_eq_true rfl, Nat.le_of_ble_eq_true rfl⟩) (fun r_1 w_1 => ?_)
  rcases w_1 with ⟨rfl, w_1⟩ | ⟨rfl, w_1⟩
  · have w_1 : (0 ≤ p0.toInt ∧ p0.toInt < m_n.toInt) := w_1
    refine lv_if_ne (tgt := 16) hx hb dX5_remove_10 (by decide) (fun c_2 => ?_) (fun c_2 => ?_)
    · refine lv_aload_n hx hb dX5_remove_16 rfl (lv_at hl 0 rfl) ?_
      refine va_get (D := (dC, dI)) (ci := 5) (v := .ref g_row) (C := RX5) (T := TX5) (N := 30) hx hb hts hi_5 hown hK hP 0 rfl rfl 0 (by decide) hf_7 (fun _ h9 => h9) rfl dX5_remove_17 ?_
      refine lv_iload_n hx hb dX5_remove_20 rfl (lv_at hl 1 rfl) ?_
      refine va_iald hx hb hK hP 1 0 rfl rfl (ki_in (om_10 w_1.1) (om_1 a1 w_1.2)) dX5_remove_21 ?_
      refine lv_topi (fun y_3 ey_3 => ?_)
      have j_3 : y_3.toInt = (f p0.toNatClampNeg).toInt := congrArg Int32.toInt ey_3
      refine lv_istore_n (lv' := [(2, .int y_3), (0, .ref h0), (1, .int p0)]) hx hb dX5_remove_22 rfl hl (by decide) rfl (fun ls hl => ?_)
      refine lv_aload_n hx hb dX5_remove_23 rfl (lv_at hl 1 rfl) ?_
      refine lv_dup hx hb dX5_remove_24 rfl ?_
      refine va_get (D := (dC, dI)) (ci := 5) (v := .int m_n) (C := RX5) (T := TX5) (N := 30) hx hb hts hi_5 hown hK hP 0 rfl rfl 1 (by decide) hf_84 (fun _ h9 => h9) rfl dX5_remove_25 ?_
      refine lv_iconst (v := 1) hx hb dX5_remove_28 (by decide) ?_
      refine lv_isub hx hb dX5_remove_29 ?_
      refine lv_topi (fun y_4 ey_4 => ?_)
      have i_4 : y_4.toInt = m_n.toInt - 1 := ki_sub ey_4 rfl rfl (om_113 a0) (om_87 a1)
      refine va_put (D := (dC, dI)) (ci := 5) (v := .int y_4) (ty := .int) (C := RX5) (T := TX5) (N := 30) hx hb hts hi_5 tyX5 tyX5_ok nmX5 hown hK hP hD hS 0 rfl rfl 1 (by decide) hf_84 (fun _ h9 => h9) rfl (by decide +kernel) rfl rfl (Nat.le_of_ble_eq_true rfl) dX5_remove_30 (fun H locs hP hD hS => ?_)
      obtain ⟨hP, hD⟩ := kx_re (w2 := [kx_5 h0 g_row y_4 m_slots 0 g_many g_loss g_less g_voteValue g_voteNumber g_allValue g_allNumber m_allMany g_nodeL g_nodeR m_nodes g_part m_partMany g_wasMany g_wasLoss g_wasValue g_wasNumber g_path m_pathMany g_heavyValue g_heavyTimes m_heavyMany g_fewest g_which g_met m_mostMet, kx_a g_row cyI 160 f]) hP hD rfl
      refine lv_iload_n hx hb dX5_remove_33 rfl (lv_at hl 2 rfl) ?_
      refine lv_istore_n (lv' := [(3, .int p0), (2, .int y_3), (0, .ref h0), (1, .int p0)]) hx hb dX5_remove_34 rfl hl (by decide) rfl (fun ls hl => ?_)
      have LP1 : ∀ (n : Nat) (i : Int32) (fc : Nat → Int32), (p0.toInt ≤ i.toInt) → (i.toInt ≤ y_4.toInt) → (fc = shL f p0.toNatClampNeg i.toNatClampNeg) → (y_4.toInt - i.toInt).toNat < n → ∀ (H : Heap) (locs : List Loc), va_P (dC, dI) vwCl [kx_5 h0 g_row y_4 m_slots 0 g_many g_loss g_less g_voteValue g_voteNumber g_allValue g_allNumber m_allMany g_nodeL g_nodeR m_nodes g_part m_partMany g_wasMany g_wasLoss g_wasValue g_wasNumber g_path m_pathMany g_heavyValue g_heavyTimes m_heavyMany g_fewest g_which g_met m_mostMet, kx_a g_row cyI 160 fc] H → va_D A [kx_5 h0 g_row y_4 m_slots 0 g_many g_loss g_less g_voteValue g_voteNumber g_allValue g_allNumber m_allMany g_nodeL g_nodeR m_nodes g_part m_partMany g_wasMany g_wasLoss g_wasValue g_wasNumber g_path m_pathMany g_heavyValue g_heavyTimes m_heavyMany g_fewest g_which g_met m_mostMet, kx_a g_row cyI 160 fc] → va_S A s.heap H locs → ∀ (ls : Array Slot), lv_has ls 4 [(3, .int i), (2, .int y_3), (0, .ref h0), (1, .int p0)] → W p l e (headSpec wsX5_remove ({ frames := 2, cells := 0, slots := 0, locals := 90 })).room s m ([.ref h0, .int p0] : List Value).toArray below meth c H locs 0 0 (MQ below (va_Qi (fun (r : Int32) (u : Int32 × (Nat → Int32)) => ((0 ≤ p0.toInt ∧ p0.toInt < m_n.toInt ∧ r = f p0.toNatClampNeg ∧ u.1.toInt = m_n.toInt - 1 ∧ u.2 = shL f p0.toNatClampNeg u.1.toNatClampNeg) ∨ ((p0.toInt < 0 ∨ m_n.toInt ≤ p0.toInt) ∧ r = -40000 ∧ u.1 = m_n ∧ u.2 = f)) ∧ shorts u.2) (fun (u : Int32 × (Nat → Int32)) (t : State) => va_P (dC, dI) vwCl [kx_5 h0 g_row u.1 m_slots 0 g_many g_loss g_less g_voteValue g_voteNumber g_allValue g_allNumber m_allMany g_nodeL g_nodeR m_nodes g_part m_partMany g_wasMany g_wasLoss g_wasValue g_wasNumber g_path m_pathMany g_heavyValue g_heavyTimes m_heavyMany g_fewest g_which g_met m_mostMet, kx_a g_row cyI 160 u.2] t.heap ∧ va_K (dC, dI) vwCl [(cyI, .int)] t ∧ va_D A [kx_5 h0 g_row u.1 m_slots 0 g_many g_loss g_less g_voteValue g_voteNumber g_allValue g_allNumber m_allMany g_nodeL g_nodeR m_nodes g_part m_partMany g_wasMany g_wasLoss g_wasValue g_wasNumber g_path m_pathMany g_heavyValue g_heavyTimes m_heavyMany g_fewest g_which g_met m_mostMet, kx_a g_row cyI 160 u.2]) A) ([.ref h0, .int p0] : List Value).toArray s 0 0 A) (F0 m 35 ls []) := by
        intro n
        induction n with
        | zero => intro i fc LP1_h0 LP1_h1 LP1_h2 hn; exact absurd hn (Nat.not_lt_zero _)
        | succ n ih1 =>
          intro i fc LP1_h0 LP1_h1 LP1_h2 hn1 H locs hP hD hS ls hl
          have n_i := ki_nat i rfl (by omega)
          have n_p := ki_nat p0 rfl (by omega)
          refine lv_iload_n hx hb dX5_remove_35 rfl (lv_at hl 0 rfl) ?_
          refine lv_aload_n hx hb dX5_remove_36 rfl (lv_at hl 2 rfl) ?_
          refine va_get (D := (dC, dI)) (ci := 5) (v := .int y_4) (C := RX5) (T := TX5) (N := 30) hx hb hts hi_5 hown hK hP 0 rfl rfl 1 (by decide) hf_84 (fun _ h9 => h9) rfl dX5_remove_37 ?_
          refine lv_icmp_ge (tgt := 63) hx hb dX5_remove_40 (by decide) (fun c_5 => ?_) (fun c_5 => ?_)
          · have i_5 : y_4.toInt ≤ i.toInt := kc_le c_5
            refine lv_iload_n hx hb dX5_remove_63 rfl (lv_at hl 1 rfl) ?_
            have hP9 := hP
            have hD9 := hD
            have hK9 := hK
            have n_l := ki_nat y_4 rfl (by omega)
            have q_f : fc = shL f p0.toNatClampNeg y_4.toNatClampNeg := by rw [LP1_h2, ki_nateq (show i.toInt = y_4.toInt by omega)]
            exact W.iret (v := y_3) hx hb hr (hlocks := hlocks) (fun t ht hW => ⟨⟨y_3, (y_4, fc), rfl, ⟨Or.inl ⟨by omega, by omega, ey_3, (by (try dsimp only); omega), q_f⟩, (by (try dsimp only); rw [q_f]; exact shorts_shL s1 (by omega))⟩, by rw [ht]; exact hP9, va_K.moved hW.alike hK9, hD9⟩, hS.F ht⟩) hS.2.2 dX5_remove_64
          · have i_5 : i.toInt < y_4.toInt := kc_nle c_5
            refine lv_aload_n hx hb dX5_remove_43 rfl (lv_at hl 2 rfl) ?_
            refine va_get (D := (dC, dI)) (ci := 5) (v := .ref g_row) (C := RX5) (T := TX5) (N := 30) hx hb hts hi_5 hown hK hP 0 rfl rfl 0 (by decide) hf_7 (fun _ h9 => h9) rfl dX5_remove_44 ?_
            refine lv_iload_n hx hb dX5_remove_47 rfl (lv_at hl 0 rfl) ?_
            refine lv_aload_n hx hb dX5_remove_48 rfl (lv_at hl 2 rfl) ?_
            refine va_get (D := (dC, dI)) (ci := 5) (v := .ref g_row) (C := RX5) (T := TX5) (N := 30) hx hb hts hi_5 hown hK hP 0 rfl rfl 0 (by decide) hf_7 (fun _ h9 => h9) rfl dX5_remove_49 ?_
            refine lv_iload_n hx hb dX5_remove_52 rfl (lv_at hl 0 rfl) ?_
            refine lv_iconst (v := 1) hx hb dX5_remove_53 (by decide) ?_
            refine lv_iadd hx hb dX5_remove_54 ?_
            refine lv_topi (fun y_6 ey_6 => ?_)
            have i_6 : y_6.toInt = i.toInt + 1 := ki_add ey_6 rfl rfl (om_2 w_1.1 LP1_h0) (om_234 a1 i_4 LP1_h1)
            refine va_iald hx hb hK hP 1 0 rfl rfl (ki_in (om_89 w_1.1 LP1_h0 i_6) (om_90 a1 i_4 i_5 i_6)) dX5_remove_55 ?_
            refine lv_topi (fun y_7 ey_7 => ?_)
            have j_7 : y_7.toInt = (fc y_6.toNatClampNeg).toInt := congrArg Int32.toInt ey_7
            refine va_iast hx hb hK hP hD hS 1 0 rfl rfl (ki_in (om_0 w_1.1 LP1_h0) (om_235 a1 i_4 LP1_h1)) dX5_remove_56 (fun H locs hP hD hS => ?_)
            obtain ⟨hP, hD⟩ := kx_re (w2 := [kx_5 h0 g_row y_4 m_slots 0 g_many g_loss g_less g_voteValue g_voteNumber g_allValue g_allNumber m_allMany g_nodeL g_nodeR m_nodes g_part m_partMany g_wasMany g_wasLoss g_wasValue g_wasNumber g_path m_pathMany g_heavyValue g_heavyTimes m_heavyMany g_fewest g_which g_met m_mostMet, kx_a g_row cyI 160 (upd fc i.toNatClampNeg y_7)]) hP hD rfl
            obtain ⟨x_8, ex_8⟩ : ∃ y : Int32, y = i + 1 := ⟨_, rfl⟩
            have i_8 : x_8.toInt = i.toInt + 1 := ki_add ex_8 rfl rfl (om_2 w_1.1 LP1_h0) (om_234 a1 i_4 LP1_h1)
            refine lv_iinc (v := x_8) (lv' := [(3, .int x_8), (2, .int y_3), (0, .ref h0), (1, .int p0)]) hx hb dX5_remove_57 hl (k := 0) rfl (by rw [ex_8]; rfl) (by decide) rfl (fun ls hl => ?_)
            refine lv_goto (tgt := 35) hx hb dX5_remove_60 (by decide) ?_
            have n_y := ki_nat y_6 rfl (by omega)
            have n_x := ki_nat x_8 rfl (by omega)
            exact ih1 x_8 (upd fc i.toNatClampNeg y_7) (om_4 LP1_h0 i_8) (om_54 i_5 i_8) (by rw [ey_7, LP1_h2]; rw [show y_6.toNatClampNeg = x_8.toNatClampNeg by omega]; exact shL_step (by omega) (by omega)) (om_mu hn1 (om_5 i_8) (om_6 i_5)) _ _ hP hD hS ls (lv_sub hl [0, 1, 2, 3] rfl)
      exact LP1 ((y_4.toInt - p0.toInt : Int).toNat + 1) p0 f om_7 (om_236 w_1.2 i_4) (shL_self _ _).symm (Nat.lt_succ_self _) _ _ hP hD hS ls (lv_sub hl [0, 1, 2, 3] rfl)
    · exact absurd c_2 (by decide)
  · have w_1 : (p0.toInt < 0 ∨ m_n.toInt ≤ p0.toInt) := w_1
    refine lv_if_ne (tgt := 16) hx hb dX5_remove_10 (by decide) (fun c_9 => ?_) (fun c_9 => ?_)
    · exact absurd c_9 (by decide)
    · refine lv_ldc (v := (-40000)) hx hb hown hk_148 dX5_remove_13 ?_
      have hP9 := hP
      have hD9 := hD
      have hK9 := hK
      exact W.iret (v := (-40000)) hx hb hr (hlocks := hlocks) (fun t ht hW => ⟨⟨(-40000), (m_n, f), rfl, ⟨Or.inr ⟨by omega, rfl, rfl, rfl⟩, s1⟩, by rw [ht]; exact hP9, va_K.moved hW.alike hK9, hD9⟩, hS.F ht⟩) hS.2.2 dX5_remove_15

set_option maxHeartbeats 4000000 in
set_option maxRecDepth 100000 in
theorem c_X5_at (l : Launch) (dC : Nat → ClassId) (dI : Nat → Nat → Nat) (h0 : Nat) (g_row : Nat) (g_many : Nat) (g_loss : Nat) (g_less : Nat) (g_voteValue : Nat) (g_voteNumber : Nat) (g_allValue : Nat) (g_allNumber : Nat) (g_nodeL : Nat) (g_nodeR : Nat) (g_part : Nat) (g_wasMany : Nat) (g_wasLoss : Nat) (g_wasValue : Nat) (g_wasNumber : Nat) (g_path : Nat) (g_heavyValue : Nat) (g_heavyTimes : Nat) (g_fewest : Nat) (g_which : Nat) (g_met : Nat) (m_n : Int32) (m_slots : Int32) (m_thrown : Int32) (m_allMany : Int32) (m_nodes : Int32) (m_partMany : Int32) (m_pathMany : Int32) (m_heavyMany : Int32) (m_mostMet : Int32) (cyI : ClassId) (f : Nat → Int32) (p0 : Int32) (sz : Nat) (a0 : 0 ≤ m_n.toInt) (a1 : m_n.toInt ≤ 160) : kx_MQ l (dC, dI) yX5_at wsX5_at ({ frames := 2, cells := 0, slots := 0, locals := 90 }) [.ref h0, .int p0] [kx_5 h0 g_row m_n m_slots m_thrown g_many g_loss g_less g_voteValue g_voteNumber g_allValue g_allNumber m_allMany g_nodeL g_nodeR m_nodes g_part m_partMany g_wasMany g_wasLoss g_wasValue g_wasNumber g_path m_pathMany g_heavyValue g_heavyTimes m_heavyMany g_fewest g_which g_met m_mostMet, kx_a g_row cyI 160 f] [(cyI, .int)] sz (fun A => va_Qi (fun (r : Int32) (u : Int32) => (0 ≤ p0.toInt ∧ p0.toInt < m_n.toInt ∧ r = f p0.toNatClampNeg ∧ u = 0) ∨ ((p0.toInt < 0 ∨ m_n.toInt ≤ p0.toInt) ∧ r = 0 ∧ u = 1)) (fun (u : Int32) (t : State) => va_P (dC, dI) vwCl [kx_5 h0 g_row m_n m_slots u g_many g_loss g_less g_voteValue g_voteNumber g_allValue g_allNumber m_allMany g_nodeL g_nodeR m_nodes g_part m_partMany g_wasMany g_wasLoss g_wasValue g_wasNumber g_path m_pathMany g_heavyValue g_heavyTimes m_heavyMany g_fewest g_which g_met m_mostMet, kx_a g_row cyI 160 f] t.heap ∧ va_K (dC, dI) vwCl [(cyI, .int)] t ∧ va_D A [kx_5 h0 g_row m_n m_slots u g_many g_loss g_less g_voteValue g_voteNumber g_allValue g_allNumber m_allMany g_nodeL g_nodeR m_nodes g_part m_partMany g_wasMany g_wasLoss g_wasValue g_wasNumber g_path m_pathMany g_heavyValue g_heavyTimes m_heavyMany g_fewest g_which g_met m_mostMet, kx_a g_row cyI 160 f]) A) := by
  refine kx_stQ (ws := wsX5_at) (cc := cX5_at) (maxL := 2) (ret := (some .int)) (by decide) rfl (Nat.le_of_ble_eq_true rfl) ?_
  intro p e s m below meth c A ls hx hb hr hlocks hts hown hml hA hS hP hK hD hl
  have hown : s.vm.findClass RX5 = some m.cls := hown
  have hl : lv_has ls 2 [(0, .ref h0), (1, .int p0)] := hl
  have hf_77 := hts (.fieldLink RX5 77 "MajorityIndexModel" "thrown" "I") (List.mem_of_getElem? (i := 1) rfl)
  have hi_5 : ∀ w ∈ u_ws RX5 TX5 30, w ∈ wsX5_at := fun w h => List.mem_cons_of_mem _ (List.mem_append_right _ h)
  have hf_7 := hts (.fieldLink RX5 7 "MajorityIndexModel" "row" "[I") (List.mem_of_getElem? (i := 2) rfl)
  refine lv_aload_n hx hb dX5_at_0 rfl (lv_at hl 0 rfl) ?_
  refine lv_aload_n hx hb dX5_at_1 rfl (lv_at hl 0 rfl) ?_
  refine lv_iload_n hx hb dX5_at_2 rfl (lv_at hl 1 rfl) ?_
  have hPc := hP.sub (ws' := [kx_5 h0 g_row m_n m_slots m_thrown g_many g_loss g_less g_voteValue g_voteNumber g_allValue g_allNumber m_allMany g_nodeL g_nodeR m_nodes g_part m_partMany g_wasMany g_wasLoss g_wasValue g_wasNumber g_path m_pathMany g_heavyValue g_heavyTimes m_heavyMany g_fewest g_which g_met m_mostMet]) [0] rfl
  have hKc := hK.sub (tys' := []) [] rfl
  refine vp_callSi (W.runV (As := [.int p0]) (rest := [.ref h0]) ⟨hx, hb, hml, hown, hts⟩ (c_X5_isPlace l dC dI h0 g_row g_many g_loss g_less g_voteValue g_voteNumber g_allValue g_allNumber g_nodeL g_nodeR g_part g_wasMany g_wasLoss g_wasValue g_wasNumber g_path g_heavyValue g_heavyTimes g_fewest g_which g_met m_n m_slots m_thrown m_allMany m_nodes m_partMany m_pathMany m_heavyMany m_mostMet p0 a0 a1) (cwV 1 hts gX5_at_X5_isPlace rfl rfl rfl (by decide +kernel) ⟨Nat.le_of_ble_eq_true rfl, Nat.le_of_ble_eq_true rfl⟩) ⟨fun a U g mk q => by obtain ⟨q0, qP, qK⟩ := q; exact ⟨q0, qP, va_K.moved (u := U) (U := U.calling g mk a) (Vm.Alike.refl U.vm) qK⟩, kx_rc5 hKc hPc (q0 := 0) rfl, fun U hU hW => ⟨rfl, by rw [hU]; exact hPc, va_K.moved hW.alike hKc⟩⟩ rfl rfl hl.1 rfl (lv_room (Nat.le_of_ble_eq_true rfl)) dX5_at_3 ⟨Nat.le_of_ble_eq_true rfl, Nat.le_of_ble_eq_true rfl⟩) (fun r_1 w_1 => ?_)
  rcases w_1 with ⟨rfl, w_1⟩ | ⟨rfl, w_1⟩
  · have w_1 : (0 ≤ p0.toInt ∧ p0.toInt < m_n.toInt) := w_1
    refine lv_if_eq (tgt := 13) hx hb dX5_at_6 (by decide) (fun c_2 => ?_) (fun c_2 => ?_)
    · exact absurd c_2 (by decide)
    · refine lv_iconst (v := 0) hx hb dX5_at_9 (by decide) ?_
      refine lv_goto (tgt := 14) hx hb dX5_at_10 (by decide) ?_
      refine va_put (D := (dC, dI)) (ci := 5) (v := .int 0) (ty := .int) (C := RX5) (T := TX5) (N := 30) hx hb hts hi_5 tyX5 tyX5_ok nmX5 hown hK hP hD hS 0 rfl rfl 3 (by decide) hf_77 (fun _ h9 => h9) rfl (by decide +kernel) rfl rfl (Nat.le_of_ble_eq_true rfl) dX5_at_14 (fun H locs hP hD hS => ?_)
      obtain ⟨hP, hD⟩ := kx_re (w2 := [kx_5 h0 g_row m_n m_slots 0 g_many g_loss g_less g_voteValue g_voteNumber g_allValue g_allNumber m_allMany g_nodeL g_nodeR m_nodes g_part m_partMany g_wasMany g_wasLoss g_wasValue g_wasNumber g_path m_pathMany g_heavyValue g_heavyTimes m_heavyMany g_fewest g_which g_met m_mostMet, kx_a g_row cyI 160 f]) hP hD rfl
      refine lv_aload_n hx hb dX5_at_17 rfl (lv_at hl 0 rfl) ?_
      refine va_get (D := (dC, dI)) (ci := 5) (v := .int 0) (C := RX5) (T := TX5) (N := 30) hx hb hts hi_5 hown hK hP 0 rfl rfl 3 (by decide) hf_77 (fun _ h9 => h9) rfl dX5_at_18 ?_
      refine lv_if_ne (tgt := 33) hx hb dX5_at_21 (by decide) (fun c_3 => ?_) (fun c_3 => ?_)
      · exact absurd c_3 (by decide)
      · refine lv_aload_n hx hb dX5_at_24 rfl (lv_at hl 0 rfl) ?_
        refine va_get (D := (dC, dI)) (ci := 5) (v := .ref g_row) (C := RX5) (T := TX5) (N := 30) hx hb hts hi_5 hown hK hP 0 rfl rfl 0 (by decide) hf_7 (fun _ h9 => h9) rfl dX5_at_25 ?_
        refine lv_iload_n hx hb dX5_at_28 rfl (lv_at hl 1 rfl) ?_
        refine va_iald hx hb hK hP 1 0 rfl rfl (ki_in (om_10 w_1.1) (om_1 a1 w_1.2)) dX5_at_29 ?_
        refine lv_topi (fun y_4 ey_4 => ?_)
        have j_4 : y_4.toInt = (f p0.toNatClampNeg).toInt := congrArg Int32.toInt ey_4
        refine lv_goto (tgt := 34) hx hb dX5_at_30 (by decide) ?_
        have hP9 := hP
        have hD9 := hD
        have hK9 := hK
        exact W.iret (v := y_4) hx hb hr (hlocks := hlocks) (fun t ht hW => ⟨⟨y_4, (0), rfl, Or.inl ⟨by omega, by omega, ey_4, rfl⟩, by rw [ht]; exact hP9, va_K.moved hW.alike hK9, hD9⟩, hS.F ht⟩) hS.2.2 dX5_at_34
  · have w_1 : (p0.toInt < 0 ∨ m_n.toInt ≤ p0.toInt) := w_1
    refine lv_if_eq (tgt := 13) hx hb dX5_at_6 (by decide) (fun c_5 => ?_) (fun c_5 => ?_)
    · refine lv_iconst (v := 1) hx hb dX5_at_13 (by decide) ?_
      refine va_put (D := (dC, dI)) (ci := 5) (v := .int 1) (ty := .int) (C := RX5) (T := TX5) (N := 30) hx hb hts hi_5 tyX5 tyX5_ok nmX5 hown hK hP hD hS 0 rfl rfl 3 (by decide) hf_77 (fun _ h9 => h9) rfl (by decide +kernel) rfl rfl (Nat.le_of_ble_eq_true rfl) dX5_at_14 (fun H locs hP hD hS => ?_)
      obtain ⟨hP, hD⟩ := kx_re (w2 := [kx_5 h0 g_row m_n m_slots 1 g_many g_loss g_less g_voteValue g_voteNumber g_allValue g_allNumber m_allMany g_nodeL g_nodeR m_nodes g_part m_partMany g_wasMany g_wasLoss g_wasValue g_wasNumber g_path m_pathMany g_heavyValue g_heavyTimes m_heavyMany g_fewest g_which g_met m_mostMet, kx_a g_row cyI 160 f]) hP hD rfl
      refine lv_aload_n hx hb dX5_at_17 rfl (lv_at hl 0 rfl) ?_
      refine va_get (D := (dC, dI)) (ci := 5) (v := .int 1) (C := RX5) (T := TX5) (N := 30) hx hb hts hi_5 hown hK hP 0 rfl rfl 3 (by decide) hf_77 (fun _ h9 => h9) rfl dX5_at_18 ?_
      refine lv_if_ne (tgt := 33) hx hb dX5_at_21 (by decide) (fun c_6 => ?_) (fun c_6 => ?_)
      · refine lv_iconst (v := 0) hx hb dX5_at_33 (by decide) ?_
        have hP9 := hP
        have hD9 := hD
        have hK9 := hK
        exact W.iret (v := 0) hx hb hr (hlocks := hlocks) (fun t ht hW => ⟨⟨0, (1), rfl, Or.inr ⟨by omega, rfl, rfl⟩, by rw [ht]; exact hP9, va_K.moved hW.alike hK9, hD9⟩, hS.F ht⟩) hS.2.2 dX5_at_34
      · exact absurd c_6 (by decide)
    · exact absurd c_5 (by decide)

set_option maxHeartbeats 4000000 in
set_option maxRecDepth 100000 in
theorem c_X5_majorityOf (l : Launch) (dC : Nat → ClassId) (dI : Nat → Nat → Nat) (h0 : Nat) (g_row : Nat) (g_many : Nat) (g_loss : Nat) (g_less : Nat) (g_voteValue : Nat) (g_voteNumber : Nat) (g_allValue : Nat) (g_allNumber : Nat) (g_nodeL : Nat) (g_nodeR : Nat) (g_part : Nat) (g_wasMany : Nat) (g_wasLoss : Nat) (g_wasValue : Nat) (g_wasNumber : Nat) (g_path : Nat) (g_heavyValue : Nat) (g_heavyTimes : Nat) (g_fewest : Nat) (g_which : Nat) (g_met : Nat) (m_n : Int32) (m_slots : Int32) (m_thrown : Int32) (m_allMany : Int32) (m_nodes : Int32) (m_partMany : Int32) (m_pathMany : Int32) (m_heavyMany : Int32) (m_mostMet : Int32) (cyI : ClassId) (f : Nat → Int32) (p0 : Int32) (p1 : Int32) (d0 : 0 ≤ p0.toInt) (d1 : p1.toInt ≤ 160) : Met l yX5_majorityOf wsX5_majorityOf ({ frames := 1, cells := 0, slots := 0, locals := 45 }) (va_Pc [.ref h0, .int p0, .int p1] (fun U => va_P (dC, dI) vwCl [kx_5 h0 g_row m_n m_slots m_thrown g_many g_loss g_less g_voteValue g_voteNumber g_allValue g_allNumber m_allMany g_nodeL g_nodeR m_nodes g_part m_partMany g_wasMany g_wasLoss g_wasValue g_wasNumber g_path m_pathMany g_heavyValue g_heavyTimes m_heavyMany g_fewest g_which g_met m_mostMet, kx_a g_row cyI 160 f] U.heap ∧ va_K (dC, dI) vwCl [(cyI, .int)] U)) (vp_Si (fun r : Int32 => True)) 0 0 (fun _ => False) := by
  refine kx_stS (ws := wsX5_majorityOf) (cc := cX5_majorityOf) (maxL := 4) (ret := (some .int)) (by decide) rfl (Nat.le_of_ble_eq_true rfl) ?_
  intro p e s m below meth c ls hx hb hr hlocks hts hown hml hP hK hl
  have hown : s.vm.findClass RX5 = some m.cls := hown
  have hl : lv_has ls 4 [(0, .ref h0), (1, .int p0), (2, .int p1)] := hl
  have hk_148 := hts (.constant RX5 148 (-40000)) (List.mem_of_getElem? (i := 2) rfl)
  have hf_7 := hts (.fieldLink RX5 7 "MajorityIndexModel" "row" "[I") (List.mem_of_getElem? (i := 1) rfl)
  have hi_5 : ∀ w ∈ u_ws RX5 TX5 30, w ∈ wsX5_majorityOf := fun w h => List.mem_cons_of_mem _ (List.mem_append_right _ h)
  refine lv_iload_n hx hb dX5_majorityOf_0 rfl (lv_at hl 1 rfl) ?_
  refine lv_istore_n (lv' := [(3, .int p0), (0, .ref h0), (1, .int p0), (2, .int p1)]) hx hb dX5_majorityOf_1 rfl hl (by decide) rfl (fun ls hl => ?_)
  have LP1 : ∀ (n : Nat) (i : Int32), (p0.toInt ≤ i.toInt) → (p1.toInt - i.toInt).toNat < n → ∀ (ls : Array Slot), lv_has ls 4 [(3, .int i), (0, .ref h0), (1, .int p0), (2, .int p1)] → W p l e (headSpec wsX5_majorityOf ({ frames := 1, cells := 0, slots := 0, locals := 45 })).room s m ([.ref h0, .int p0, .int p1] : List Value).toArray below meth c s.heap [] 0 0 (MQ below (vp_Si (fun r : Int32 => True)) ([.ref h0, .int p0, .int p1] : List Value).toArray s 0 0 (fun _ => False)) (F0 m 2 ls []) := by
    intro n
    induction n with
    | zero => intro i LP1_h0 hn; exact absurd hn (Nat.not_lt_zero _)
    | succ n ih1 =>
      intro i LP1_h0 hn1 ls hl
      refine lv_iload_n hx hb dX5_majorityOf_2 rfl (lv_at hl 0 rfl) ?_
      refine lv_iload_n hx hb dX5_majorityOf_3 rfl (lv_at hl 3 rfl) ?_
      refine lv_icmp_ge (tgt := 40) hx hb dX5_majorityOf_4 (by decide) (fun c_1 => ?_) (fun c_1 => ?_)
      · have i_1 : p1.toInt ≤ i.toInt := kc_le c_1
        refine lv_ldc (v := (-40000)) hx hb hown hk_148 dX5_majorityOf_40 ?_
        exact W.iret (v := (-40000)) hx hb hr (hlocks := hlocks) (fun t ht hW => ⟨(-40000), rfl, trivial, ht⟩) (fun q hq => by cases hq) dX5_majorityOf_42
      · have i_1 : i.toInt < p1.toInt := kc_nle c_1
        refine lv_iconst (v := 2) hx hb dX5_majorityOf_7 (by decide) ?_
        refine lv_aload_n hx hb dX5_majorityOf_8 rfl (lv_at hl 1 rfl) ?_
        refine lv_aload_n hx hb dX5_majorityOf_9 rfl (lv_at hl 1 rfl) ?_
        refine va_get (D := (dC, dI)) (ci := 5) (v := .ref g_row) (C := RX5) (T := TX5) (N := 30) hx hb hts hi_5 hown hK hP 0 rfl rfl 0 (by decide) hf_7 (fun _ h9 => h9) rfl dX5_majorityOf_10 ?_
        refine lv_iload_n hx hb dX5_majorityOf_13 rfl (lv_at hl 0 rfl) ?_
        refine va_iald hx hb hK hP 1 0 rfl rfl (ki_in (om_0 d0 LP1_h0) (om_1 d1 i_1)) dX5_majorityOf_14 ?_
        refine lv_topi (fun y_2 ey_2 => ?_)
        have j_2 : y_2.toInt = (f i.toNatClampNeg).toInt := congrArg Int32.toInt ey_2
        refine lv_iload_n hx hb dX5_majorityOf_15 rfl (lv_at hl 2 rfl) ?_
        refine lv_iload_n hx hb dX5_majorityOf_16 rfl (lv_at hl 3 rfl) ?_
        have hPc := hP
        have hKc := hK
        refine vp_callSi (W.runV (As := [.int y_2, .int p0, .int p1]) (rest := [.int 2]) ⟨hx, hb, hml, hown, hts⟩ (c_X5_times l dC dI h0 g_row g_many g_loss g_less g_voteValue g_voteNumber g_allValue g_allNumber g_nodeL g_nodeR g_part g_wasMany g_wasLoss g_wasValue g_wasNumber g_path g_heavyValue g_heavyTimes g_fewest g_which g_met m_n m_slots m_thrown m_allMany m_nodes m_partMany m_pathMany m_heavyMany m_mostMet cyI f y_2 p0 p1 d0 d1) (cwV 3 hts gX5_majorityOf_X5_times rfl rfl rfl (by decide +kernel) ⟨Nat.le_of_ble_eq_true rfl, Nat.le_of_ble_eq_true rfl⟩) ⟨fun a U g mk q => by obtain ⟨q0, qP, qK⟩ := q; exact ⟨q0, qP, va_K.moved (u := U) (U := U.calling g mk a) (Vm.Alike.refl U.vm) qK⟩, kx_rc5 hKc hPc (q0 := 0) rfl, fun U hU hW => ⟨rfl, by rw [hU]; exact hPc, va_K.moved hW.alike hKc⟩⟩ rfl rfl hl.1 rfl (lv_room (Nat.le_of_ble_eq_true rfl)) dX5_majorityOf_17 ⟨Nat.le_of_ble_eq_true rfl, Nat.le_of_ble_eq_true rfl⟩) (fun r_3 w_3 => ?_)
        have w_3 : r_3.toInt = (cnt f y_2 p0.toNatClampNeg (p1.toInt - p0.toInt).toNat : Int) := w_3
        refine lv_imul hx hb dX5_majorityOf_20 ?_
        refine lv_topi (fun y_4 ey_4 => ?_)
        refine lv_iload_n hx hb dX5_majorityOf_21 rfl (lv_at hl 3 rfl) ?_
        refine lv_iload_n hx hb dX5_majorityOf_22 rfl (lv_at hl 2 rfl) ?_
        refine lv_isub hx hb dX5_majorityOf_23 ?_
        refine lv_topi (fun y_5 ey_5 => ?_)
        refine lv_icmp_le (tgt := 34) hx hb dX5_majorityOf_24 (by decide) (fun c_6 => ?_) (fun c_6 => ?_)
        · have i_6 : y_4.toInt ≤ y_5.toInt := kc_le c_6
          obtain ⟨x_7, ex_7⟩ : ∃ y : Int32, y = i + 1 := ⟨_, rfl⟩
          have i_7 : x_7.toInt = i.toInt + 1 := ki_add ex_7 rfl rfl (om_2 d0 LP1_h0) (om_3 d1 i_1)
          refine lv_iinc (v := x_7) (lv' := [(3, .int x_7), (0, .ref h0), (1, .int p0), (2, .int p1)]) hx hb dX5_majorityOf_34 hl (k := 0) rfl (by rw [ex_7]; rfl) (by decide) rfl (fun ls hl => ?_)
          refine lv_goto (tgt := 2) hx hb dX5_majorityOf_37 (by decide) ?_
          exact ih1 x_7 (om_4 LP1_h0 i_7) (om_mu hn1 (om_5 i_7) (om_6 i_1)) ls (lv_sub hl [0, 1, 2, 3] rfl)
        · have i_6 : y_5.toInt < y_4.toInt := kc_nle c_6
          refine lv_aload_n hx hb dX5_majorityOf_27 rfl (lv_at hl 1 rfl) ?_
          refine va_get (D := (dC, dI)) (ci := 5) (v := .ref g_row) (C := RX5) (T := TX5) (N := 30) hx hb hts hi_5 hown hK hP 0 rfl rfl 0 (by decide) hf_7 (fun _ h9 => h9) rfl dX5_majorityOf_28 ?_
          refine lv_iload_n hx hb dX5_majorityOf_31 rfl (lv_at hl 0 rfl) ?_
          refine va_iald hx hb hK hP 1 0 rfl rfl (ki_in (om_0 d0 LP1_h0) (om_1 d1 i_1)) dX5_majorityOf_32 ?_
          refine lv_topi (fun y_8 ey_8 => ?_)
          have j_8 : y_8.toInt = (f i.toNatClampNeg).toInt := congrArg Int32.toInt ey_8
          exact W.iret (v := y_8) hx hb hr (hlocks := hlocks) (fun t ht hW => ⟨y_8, rfl, trivial, ht⟩) (fun q hq => by cases hq) dX5_majorityOf_33
  exact LP1 ((p1.toInt - p0.toInt : Int).toNat + 1) p0 om_7 (Nat.lt_succ_self _) ls (lv_sub hl [0, 1, 2, 3] rfl)

set_option maxHeartbeats 4000000 in
set_option maxRecDepth 100000 in
theorem c_X5_count (l : Launch) (dC : Nat → ClassId) (dI : Nat → Nat → Nat) (h0 : Nat) (g_row : Nat) (g_many : Nat) (g_loss : Nat) (g_less : Nat) (g_voteValue : Nat) (g_voteNumber : Nat) (g_allValue : Nat) (g_allNumber : Nat) (g_nodeL : Nat) (g_nodeR : Nat) (g_part : Nat) (g_wasMany : Nat) (g_wasLoss : Nat) (g_wasValue : Nat) (g_wasNumber : Nat) (g_path : Nat) (g_heavyValue : Nat) (g_heavyTimes : Nat) (g_fewest : Nat) (g_which : Nat) (g_met : Nat) (m_n : Int32) (m_slots : Int32) (m_thrown : Int32) (m_allMany : Int32) (m_nodes : Int32) (m_partMany : Int32) (m_pathMany : Int32) (m_heavyMany : Int32) (m_mostMet : Int32) (cyI : ClassId) (f : Nat → Int32) (p0 : Int32) (p1 : Int32) (p2 : Int32) (sz : Nat) (a0 : 0 ≤ m_n.toInt) (a1 : m_n.toInt ≤ 160) : kx_MQ l (dC, dI) yX5_count wsX5_count ({ frames := 2, cells := 0, slots := 0, locals := 90 }) [.ref h0, .int p0, .int p1, .int p2] [kx_5 h0 g_row m_n m_slots m_thrown g_many g_loss g_less g_voteValue g_voteNumber g_allValue g_allNumber m_allMany g_nodeL g_nodeR m_nodes g_part m_partMany g_wasMany g_wasLoss g_wasValue g_wasNumber g_path m_pathMany g_heavyValue g_heavyTimes m_heavyMany g_fewest g_which g_met m_mostMet, kx_a g_row cyI 160 f] [(cyI, .int)] sz (fun A => va_Qi (fun (r : Int32) (_ : Unit) => True) (fun (_ : Unit) (t : State) => va_P (dC, dI) vwCl [kx_5 h0 g_row m_n m_slots 0 g_many g_loss g_less g_voteValue g_voteNumber g_allValue g_allNumber m_allMany g_nodeL g_nodeR m_nodes g_part m_partMany g_wasMany g_wasLoss g_wasValue g_wasNumber g_path m_pathMany g_heavyValue g_heavyTimes m_heavyMany g_fewest g_which g_met m_mostMet, kx_a g_row cyI 160 f] t.heap ∧ va_K (dC, dI) vwCl [(cyI, .int)] t ∧ va_D A [kx_5 h0 g_row m_n m_slots 0 g_many g_loss g_less g_voteValue g_voteNumber g_allValue g_allNumber m_allMany g_nodeL g_nodeR m_nodes g_part m_partMany g_wasMany g_wasLoss g_wasValue g_wasNumber g_path m_pathMany g_heavyValue g_heavyTimes m_heavyMany g_fewest g_which g_met m_mostMet, kx_a g_row cyI 160 f]) A) := by
  refine kx_stQ (ws := wsX5_count) (cc := cX5_count) (maxL := 4) (ret := (some .int)) (by decide) rfl (Nat.le_of_ble_eq_true rfl) ?_
  intro p e s m below meth c A ls hx hb hr hlocks hts hown hml hA hS hP hK hD hl
  have hown : s.vm.findClass RX5 = some m.cls := hown
  have hl : lv_has ls 4 [(0, .ref h0), (1, .int p0), (2, .int p1), (3, .int p2)] := hl
  have hf_77 := hts (.fieldLink RX5 77 "MajorityIndexModel" "thrown" "I") (List.mem_of_getElem? (i := 1) rfl)
  have hi_5 : ∀ w ∈ u_ws RX5 TX5 30, w ∈ wsX5_count := fun w h => List.mem_cons_of_mem _ (List.mem_append_right _ h)
  refine lv_aload_n hx hb dX5_count_0 rfl (lv_at hl 0 rfl) ?_
  refine lv_iconst (v := 0) hx hb dX5_count_1 (by decide) ?_
  refine va_put (D := (dC, dI)) (ci := 5) (v := .int 0) (ty := .int) (C := RX5) (T := TX5) (N := 30) hx hb hts hi_5 tyX5 tyX5_ok nmX5 hown hK hP hD hS 0 rfl rfl 3 (by decide) hf_77 (fun _ h9 => h9) rfl (by decide +kernel) rfl rfl (Nat.le_of_ble_eq_true rfl) dX5_count_2 (fun H locs hP hD hS => ?_)
  obtain ⟨hP, hD⟩ := kx_re (w2 := [kx_5 h0 g_row m_n m_slots 0 g_many g_loss g_less g_voteValue g_voteNumber g_allValue g_allNumber m_allMany g_nodeL g_nodeR m_nodes g_part m_partMany g_wasMany g_wasLoss g_wasValue g_wasNumber g_path m_pathMany g_heavyValue g_heavyTimes m_heavyMany g_fewest g_which g_met m_mostMet, kx_a g_row cyI 160 f]) hP hD rfl
  refine lv_iload_n hx hb dX5_count_5 rfl (lv_at hl 1 rfl) ?_
  have hPc := hP.sub (ws' := []) [] rfl
  have hKc := hK.sub (tys' := []) [] rfl
  refine vp_callSi (W.runS (As := [.int p0]) (rest := []) ⟨hx, hb, hml, hown, hts⟩ (c_X5_isValue l dC dI p0) (va_cwS 1 hts gX5_count_X5_isValue rfl rfl rfl (by decide +kernel) ⟨Nat.le_of_ble_eq_true rfl, Nat.le_of_ble_eq_true rfl⟩) ⟨fun a U g mk q => by obtain ⟨q0, qP, qK⟩ := q; exact ⟨q0, qP, va_K.moved (u := U) (U := U.calling g mk a) (Vm.Alike.refl U.vm) qK⟩, fun U hU hW => ⟨rfl, by rw [hU]; exact hPc, va_K.moved hW.alike hKc⟩⟩ rfl rfl hl.1 rfl (lv_room (Nat.le_of_ble_eq_true rfl)) dX5_count_6 ⟨Nat.le_of_ble_eq_true rfl, Nat.le_of_ble_eq_true rfl⟩) (fun r_1 w_1 => ?_)
  rcases w_1 with ⟨rfl, w_1⟩ | ⟨rfl, w_1⟩
  · have w_1 : (-32768 ≤ p0.toInt ∧ p0.toInt ≤ 32767) := w_1
    refine lv_if_eq (tgt := 31) hx hb dX5_count_9 (by decide) (fun c_2 => ?_) (fun c_2 => ?_)
    · exact absurd c_2 (by decide)
    · refine lv_aload_n hx hb dX5_count_12 rfl (lv_at hl 0 rfl) ?_
      refine lv_iload_n hx hb dX5_count_13 rfl (lv_at hl 2 rfl) ?_
      refine lv_iload_n hx hb dX5_count_14 rfl (lv_at hl 3 rfl) ?_
      have hPc := hP.sub (ws' := [kx_5 h0 g_row m_n m_slots 0 g_many g_loss g_less g_voteValue g_voteNumber g_allValue g_allNumber m_allMany g_nodeL g_nodeR m_nodes g_part m_partMany g_wasMany g_wasLoss g_wasValue g_wasNumber g_path m_pathMany g_heavyValue g_heavyTimes m_heavyMany g_fewest g_which g_met m_mostMet]) [0] rfl
      have hKc := hK.sub (tys' := []) [] rfl
      refine vp_callSi (W.runV (As := [.int p1, .int p2]) (rest := []) ⟨hx, hb, hml, hown, hts⟩ (c_X5_isRange l dC dI h0 g_row g_many g_loss g_less g_voteValue g_voteNumber g_allValue g_allNumber g_nodeL g_nodeR g_part g_wasMany g_wasLoss g_wasValue g_wasNumber g_path g_heavyValue g_heavyTimes g_fewest g_which g_met m_n m_slots 0 m_allMany m_nodes m_partMany m_pathMany m_heavyMany m_mostMet p1 p2) (cwV 2 hts gX5_count_X5_isRange rfl rfl rfl (by decide +kernel) ⟨Nat.le_of_ble_eq_true rfl, Nat.le_of_ble_eq_true rfl⟩) ⟨fun a U g mk q => by obtain ⟨q0, qP, qK⟩ := q; exact ⟨q0, qP, va_K.moved (u := U) (U := U.calling g mk a) (Vm.Alike.refl U.vm) qK⟩, kx_rc5 hKc hPc (q0 := 0) rfl, fun U hU hW => ⟨rfl, by rw [hU]; exact hPc, va_K.moved hW.alike hKc⟩⟩ rfl rfl hl.1 rfl (lv_room (Nat.le_of_ble_eq_true rfl)) dX5_count_15 ⟨Nat.le_of_ble_eq_true rfl, Nat.le_of_ble_eq_true rfl⟩) (fun r_3 w_3 => ?_)
      rcases w_3 with ⟨rfl, w_3⟩ | ⟨rfl, w_3⟩
      · have w_3 : (0 ≤ p1.toInt ∧ p1.toInt < p2.toInt ∧ p2.toInt ≤ m_n.toInt) := w_3
        refine lv_if_eq (tgt := 31) hx hb dX5_count_18 (by decide) (fun c_4 => ?_) (fun c_4 => ?_)
        · exact absurd c_4 (by decide)
        · refine lv_aload_n hx hb dX5_count_21 rfl (lv_at hl 0 rfl) ?_
          refine lv_iload_n hx hb dX5_count_22 rfl (lv_at hl 1 rfl) ?_
          refine lv_iload_n hx hb dX5_count_23 rfl (lv_at hl 2 rfl) ?_
          refine lv_iload_n hx hb dX5_count_24 rfl (lv_at hl 3 rfl) ?_
          have hPc := hP
          have hKc := hK
          refine vp_callSi (W.runV (As := [.int p0, .int p1, .int p2]) (rest := []) ⟨hx, hb, hml, hown, hts⟩ (c_X5_times l dC dI h0 g_row g_many g_loss g_less g_voteValue g_voteNumber g_allValue g_allNumber g_nodeL g_nodeR g_part g_wasMany g_wasLoss g_wasValue g_wasNumber g_path g_heavyValue g_heavyTimes g_fewest g_which g_met m_n m_slots 0 m_allMany m_nodes m_partMany m_pathMany m_heavyMany m_mostMet cyI f p0 p1 p2 (om_10 w_3.1) (om_167 a1 w_3.2.2)) (cwV 3 hts gX5_count_X5_times rfl rfl rfl (by decide +kernel) ⟨Nat.le_of_ble_eq_true rfl, Nat.le_of_ble_eq_true rfl⟩) ⟨fun a U g mk q => by obtain ⟨q0, qP, qK⟩ := q; exact ⟨q0, qP, va_K.moved (u := U) (U := U.calling g mk a) (Vm.Alike.refl U.vm) qK⟩, kx_rc5 hKc hPc (q0 := 0) rfl, fun U hU hW => ⟨rfl, by rw [hU]; exact hPc, va_K.moved hW.alike hKc⟩⟩ rfl rfl hl.1 rfl (lv_room (Nat.le_of_ble_eq_true rfl)) dX5_count_25 ⟨Nat.le_of_ble_eq_true rfl, Nat.le_of_ble_eq_true rfl⟩) (fun r_5 w_5 => ?_)
          have w_5 : r_5.toInt = (cnt f p0 p1.toNatClampNeg (p2.toInt - p1.toInt).toNat : Int) := w_5
          refine lv_goto (tgt := 32) hx hb dX5_count_28 (by decide) ?_
          have hP9 := hP
          have hD9 := hD
          have hK9 := hK
          exact W.iret (v := r_5) hx hb hr (hlocks := hlocks) (fun t ht hW => ⟨⟨r_5, (), rfl, trivial, by rw [ht]; exact hP9, va_K.moved hW.alike hK9, hD9⟩, hS.F ht⟩) hS.2.2 dX5_count_32
      · have w_3 : (p1.toInt < 0 ∨ p2.toInt ≤ p1.toInt ∨ m_n.toInt < p2.toInt) := w_3
        refine lv_if_eq (tgt := 31) hx hb dX5_count_18 (by decide) (fun c_6 => ?_) (fun c_6 => ?_)
        · refine lv_iconst (v := (-1)) hx hb dX5_count_31 (by decide) ?_
          have hP9 := hP
          have hD9 := hD
          have hK9 := hK
          exact W.iret (v := (-1)) hx hb hr (hlocks := hlocks) (fun t ht hW => ⟨⟨(-1), (), rfl, trivial, by rw [ht]; exact hP9, va_K.moved hW.alike hK9, hD9⟩, hS.F ht⟩) hS.2.2 dX5_count_32
        · exact absurd c_6 (by decide)
  · have w_1 : (p0.toInt < -32768 ∨ 32767 < p0.toInt) := w_1
    refine lv_if_eq (tgt := 31) hx hb dX5_count_9 (by decide) (fun c_7 => ?_) (fun c_7 => ?_)
    · refine lv_iconst (v := (-1)) hx hb dX5_count_31 (by decide) ?_
      have hP9 := hP
      have hD9 := hD
      have hK9 := hK
      exact W.iret (v := (-1)) hx hb hr (hlocks := hlocks) (fun t ht hW => ⟨⟨(-1), (), rfl, trivial, by rw [ht]; exact hP9, va_K.moved hW.alike hK9, hD9⟩, hS.F ht⟩) hS.2.2 dX5_count_32
    · exact absurd c_7 (by decide)

set_option maxHeartbeats 4000000 in
set_option maxRecDepth 100000 in
theorem c_X5_place (l : Launch) (dC : Nat → ClassId) (dI : Nat → Nat → Nat) (h0 : Nat) (g_row : Nat) (g_many : Nat) (g_loss : Nat) (g_less : Nat) (g_voteValue : Nat) (g_voteNumber : Nat) (g_allValue : Nat) (g_allNumber : Nat) (g_nodeL : Nat) (g_nodeR : Nat) (g_part : Nat) (g_wasMany : Nat) (g_wasLoss : Nat) (g_wasValue : Nat) (g_wasNumber : Nat) (g_path : Nat) (g_heavyValue : Nat) (g_heavyTimes : Nat) (g_fewest : Nat) (g_which : Nat) (g_met : Nat) (m_n : Int32) (m_slots : Int32) (m_thrown : Int32) (m_allMany : Int32) (m_nodes : Int32) (m_partMany : Int32) (m_pathMany : Int32) (m_heavyMany : Int32) (m_mostMet : Int32) (cyI : ClassId) (f : Nat → Int32) (p0 : Int32) (p1 : Int32) (sz : Nat) (a0 : 0 ≤ m_n.toInt) (a1 : m_n.toInt ≤ 160) : kx_MQ l (dC, dI) yX5_place wsX5_place ({ frames := 0, cells := 0, slots := 0, locals := 0 }) [.ref h0, .int p0, .int p1] [kx_5 h0 g_row m_n m_slots m_thrown g_many g_loss g_less g_voteValue g_voteNumber g_allValue g_allNumber m_allMany g_nodeL g_nodeR m_nodes g_part m_partMany g_wasMany g_wasLoss g_wasValue g_wasNumber g_path m_pathMany g_heavyValue g_heavyTimes m_heavyMany g_fewest g_which g_met m_mostMet, kx_a g_row cyI 160 f] [(cyI, .int)] sz (fun A => va_Qi (fun (r : Int32) (_ : Unit) => True) (fun (_ : Unit) (t : State) => va_P (dC, dI) vwCl [kx_5 h0 g_row m_n m_slots 0 g_many g_loss g_less g_voteValue g_voteNumber g_allValue g_allNumber m_allMany g_nodeL g_nodeR m_nodes g_part m_partMany g_wasMany g_wasLoss g_wasValue g_wasNumber g_path m_pathMany g_heavyValue g_heavyTimes m_heavyMany g_fewest g_which g_met m_mostMet, kx_a g_row cyI 160 f] t.heap ∧ va_K (dC, dI) vwCl [(cyI, .int)] t ∧ va_D A [kx_5 h0 g_row m_n m_slots 0 g_many g_loss g_less g_voteValue g_voteNumber g_allValue g_allNumber m_allMany g_nodeL g_nodeR m_nodes g_part m_partMany g_wasMany g_wasLoss g_wasValue g_wasNumber g_path m_pathMany g_heavyValue g_heavyTimes m_heavyMany g_fewest g_which g_met m_mostMet, kx_a g_row cyI 160 f]) A) := by
  refine kx_stQ (ws := wsX5_place) (cc := cX5_place) (maxL := 5) (ret := (some .int)) (by decide) rfl (Nat.le_of_ble_eq_true rfl) ?_
  intro p e s m below meth c A ls hx hb hr hlocks hts hown hml hA hS hP hK hD hl
  have hown : s.vm.findClass RX5 = some m.cls := hown
  have hl : lv_has ls 5 [(0, .ref h0), (1, .int p0), (2, .int p1)] := hl
  have hf_77 := hts (.fieldLink RX5 77 "MajorityIndexModel" "thrown" "I") (List.mem_of_getElem? (i := 1) rfl)
  have hi_5 : ∀ w ∈ u_ws RX5 TX5 30, w ∈ wsX5_place := fun w h => List.mem_cons_of_mem _ (List.mem_append_right _ h)
  have hf_84 := hts (.fieldLink RX5 84 "MajorityIndexModel" "n" "I") (List.mem_of_getElem? (i := 2) rfl)
  have hf_7 := hts (.fieldLink RX5 7 "MajorityIndexModel" "row" "[I") (List.mem_of_getElem? (i := 3) rfl)
  refine lv_aload_n hx hb dX5_place_0 rfl (lv_at hl 0 rfl) ?_
  refine lv_iconst (v := 0) hx hb dX5_place_1 (by decide) ?_
  refine va_put (D := (dC, dI)) (ci := 5) (v := .int 0) (ty := .int) (C := RX5) (T := TX5) (N := 30) hx hb hts hi_5 tyX5 tyX5_ok nmX5 hown hK hP hD hS 0 rfl rfl 3 (by decide) hf_77 (fun _ h9 => h9) rfl (by decide +kernel) rfl rfl (Nat.le_of_ble_eq_true rfl) dX5_place_2 (fun H locs hP hD hS => ?_)
  obtain ⟨hP, hD⟩ := kx_re (w2 := [kx_5 h0 g_row m_n m_slots 0 g_many g_loss g_less g_voteValue g_voteNumber g_allValue g_allNumber m_allMany g_nodeL g_nodeR m_nodes g_part m_partMany g_wasMany g_wasLoss g_wasValue g_wasNumber g_path m_pathMany g_heavyValue g_heavyTimes m_heavyMany g_fewest g_which g_met m_mostMet, kx_a g_row cyI 160 f]) hP hD rfl
  refine lv_iload_n hx hb dX5_place_5 rfl (lv_at hl 2 rfl) ?_
  refine lv_istore_n (lv' := [(3, .int p1), (0, .ref h0), (1, .int p0), (2, .int p1)]) hx hb dX5_place_6 rfl hl (by decide) rfl (fun ls hl => ?_)
  refine lv_iconst (v := 0) hx hb dX5_place_7 (by decide) ?_
  refine lv_istore (lv' := [(4, .int 0), (3, .int p1), (0, .ref h0), (1, .int p0), (2, .int p1)]) hx hb dX5_place_8 hl (by decide) rfl (fun ls hl => ?_)
  have LP1 : ∀ (n : Nat) (i : Int32) (lf : Int32), (0 ≤ i.toInt) → (m_n.toInt - i.toInt).toNat < n → ∀ (H : Heap) (locs : List Loc), va_P (dC, dI) vwCl [kx_5 h0 g_row m_n m_slots 0 g_many g_loss g_less g_voteValue g_voteNumber g_allValue g_allNumber m_allMany g_nodeL g_nodeR m_nodes g_part m_partMany g_wasMany g_wasLoss g_wasValue g_wasNumber g_path m_pathMany g_heavyValue g_heavyTimes m_heavyMany g_fewest g_which g_met m_mostMet, kx_a g_row cyI 160 f] H → va_D A [kx_5 h0 g_row m_n m_slots 0 g_many g_loss g_less g_voteValue g_voteNumber g_allValue g_allNumber m_allMany g_nodeL g_nodeR m_nodes g_part m_partMany g_wasMany g_wasLoss g_wasValue g_wasNumber g_path m_pathMany g_heavyValue g_heavyTimes m_heavyMany g_fewest g_which g_met m_mostMet, kx_a g_row cyI 160 f] → va_S A s.heap H locs → ∀ (ls : Array Slot), lv_has ls 5 [(4, .int i), (3, .int lf), (0, .ref h0), (1, .int p0), (2, .int p1)] → W p l e (headSpec wsX5_place ({ frames := 0, cells := 0, slots := 0, locals := 0 })).room s m ([.ref h0, .int p0, .int p1] : List Value).toArray below meth c H locs 0 0 (MQ below (va_Qi (fun (r : Int32) (_ : Unit) => True) (fun (_ : Unit) (t : State) => va_P (dC, dI) vwCl [kx_5 h0 g_row m_n m_slots 0 g_many g_loss g_less g_voteValue g_voteNumber g_allValue g_allNumber m_allMany g_nodeL g_nodeR m_nodes g_part m_partMany g_wasMany g_wasLoss g_wasValue g_wasNumber g_path m_pathMany g_heavyValue g_heavyTimes m_heavyMany g_fewest g_which g_met m_mostMet, kx_a g_row cyI 160 f] t.heap ∧ va_K (dC, dI) vwCl [(cyI, .int)] t ∧ va_D A [kx_5 h0 g_row m_n m_slots 0 g_many g_loss g_less g_voteValue g_voteNumber g_allValue g_allNumber m_allMany g_nodeL g_nodeR m_nodes g_part m_partMany g_wasMany g_wasLoss g_wasValue g_wasNumber g_path m_pathMany g_heavyValue g_heavyTimes m_heavyMany g_fewest g_which g_met m_mostMet, kx_a g_row cyI 160 f]) A) ([.ref h0, .int p0, .int p1] : List Value).toArray s 0 0 A) (F0 m 10 ls []) := by
    intro n
    induction n with
    | zero => intro i lf LP1_h0 hn; exact absurd hn (Nat.not_lt_zero _)
    | succ n ih1 =>
      intro i lf LP1_h0 hn1 H locs hP hD hS ls hl
      refine lv_iload hx hb dX5_place_10 (lv_at hl 0 rfl) ?_
      refine lv_aload_n hx hb dX5_place_12 rfl (lv_at hl 2 rfl) ?_
      refine va_get (D := (dC, dI)) (ci := 5) (v := .int m_n) (C := RX5) (T := TX5) (N := 30) hx hb hts hi_5 hown hK hP 0 rfl rfl 1 (by decide) hf_84 (fun _ h9 => h9) rfl dX5_place_13 ?_
      refine lv_icmp_ge (tgt := 53) hx hb dX5_place_16 (by decide) (fun c_1 => ?_) (fun c_1 => ?_)
      · have i_1 : m_n.toInt ≤ i.toInt := kc_le c_1
        refine lv_iconst (v := (-1)) hx hb dX5_place_53 (by decide) ?_
        have hP9 := hP
        have hD9 := hD
        have hK9 := hK
        exact W.iret (v := (-1)) hx hb hr (hlocks := hlocks) (fun t ht hW => ⟨⟨(-1), (), rfl, trivial, by rw [ht]; exact hP9, va_K.moved hW.alike hK9, hD9⟩, hS.F ht⟩) hS.2.2 dX5_place_54
      · have i_1 : i.toInt < m_n.toInt := kc_nle c_1
        refine lv_iload_n hx hb dX5_place_19 rfl (lv_at hl 4 rfl) ?_
        refine lv_if_lt (tgt := 53) hx hb dX5_place_20 (by decide) (fun c_2 => ?_) (fun c_2 => ?_)
        · have i_2 : p1.toInt < 0 := kc_lt c_2
          refine lv_iconst (v := (-1)) hx hb dX5_place_53 (by decide) ?_
          have hP9 := hP
          have hD9 := hD
          have hK9 := hK
          exact W.iret (v := (-1)) hx hb hr (hlocks := hlocks) (fun t ht hW => ⟨⟨(-1), (), rfl, trivial, by rw [ht]; exact hP9, va_K.moved hW.alike hK9, hD9⟩, hS.F ht⟩) hS.2.2 dX5_place_54
        · have i_2 : 0 ≤ p1.toInt := kc_nlt c_2
          refine lv_aload_n hx hb dX5_place_23 rfl (lv_at hl 2 rfl) ?_
          refine va_get (D := (dC, dI)) (ci := 5) (v := .ref g_row) (C := RX5) (T := TX5) (N := 30) hx hb hts hi_5 hown hK hP 0 rfl rfl 0 (by decide) hf_7 (fun _ h9 => h9) rfl dX5_place_24 ?_
          refine lv_iload hx hb dX5_place_27 (lv_at hl 0 rfl) ?_
          refine va_iald hx hb hK hP 1 0 rfl rfl (ki_in (om_10 LP1_h0) (om_1 a1 i_1)) dX5_place_29 ?_
          refine lv_topi (fun y_3 ey_3 => ?_)
          have j_3 : y_3.toInt = (f i.toNatClampNeg).toInt := congrArg Int32.toInt ey_3
          refine lv_iload_n hx hb dX5_place_30 rfl (lv_at hl 3 rfl) ?_
          refine lv_icmp_eq (tgt := 37) hx hb dX5_place_31 (by decide) (fun c_4 => ?_) (fun c_4 => ?_)
          · have i_4 : y_3.toInt = p0.toInt := kc_eq c_4
            refine lv_iload_n hx hb dX5_place_37 rfl (lv_at hl 1 rfl) ?_
            refine lv_if_ne (tgt := 44) hx hb dX5_place_38 (by decide) (fun c_5 => ?_) (fun c_5 => ?_)
            · have i_5 : ¬ lf.toInt = 0 := kc_ne c_5
              obtain ⟨x_6, ex_6⟩ : ∃ y : Int32, y = lf + (-1) := ⟨_, rfl⟩
              refine lv_iinc (v := x_6) (lv' := [(3, .int x_6), (4, .int i), (0, .ref h0), (1, .int p0), (2, .int p1)]) hx hb dX5_place_44 hl (k := 1) rfl (by rw [ex_6]; rfl) (by decide) rfl (fun ls hl => ?_)
              obtain ⟨x_7, ex_7⟩ : ∃ y : Int32, y = i + 1 := ⟨_, rfl⟩
              have i_7 : x_7.toInt = i.toInt + 1 := ki_add ex_7 rfl rfl (om_13 LP1_h0) (om_3 a1 i_1)
              refine lv_iinc (v := x_7) (lv' := [(4, .int x_7), (3, .int x_6), (0, .ref h0), (1, .int p0), (2, .int p1)]) hx hb dX5_place_47 hl (k := 1) rfl (by rw [ex_7]; rfl) (by decide) rfl (fun ls hl => ?_)
              refine lv_goto (tgt := 10) hx hb dX5_place_50 (by decide) ?_
              exact ih1 x_7 x_6 (om_34 LP1_h0 i_7) (om_mu hn1 (om_5 i_7) (om_6 i_1)) _ _ hP hD hS ls (lv_sub hl [0, 1, 2, 3, 4] rfl)
            · have i_5 : lf.toInt = 0 := kc_eq c_5
              refine lv_iload hx hb dX5_place_41 (lv_at hl 0 rfl) ?_
              have hP9 := hP
              have hD9 := hD
              have hK9 := hK
              exact W.iret (v := i) hx hb hr (hlocks := hlocks) (fun t ht hW => ⟨⟨i, (), rfl, trivial, by rw [ht]; exact hP9, va_K.moved hW.alike hK9, hD9⟩, hS.F ht⟩) hS.2.2 dX5_place_43
          · have i_4 : ¬ y_3.toInt = p0.toInt := kc_ne c_4
            refine lv_goto (tgt := 47) hx hb dX5_place_34 (by decide) ?_
            obtain ⟨x_8, ex_8⟩ : ∃ y : Int32, y = i + 1 := ⟨_, rfl⟩
            have i_8 : x_8.toInt = i.toInt + 1 := ki_add ex_8 rfl rfl (om_13 LP1_h0) (om_3 a1 i_1)
            refine lv_iinc (v := x_8) (lv' := [(4, .int x_8), (3, .int lf), (0, .ref h0), (1, .int p0), (2, .int p1)]) hx hb dX5_place_47 hl (k := 0) rfl (by rw [ex_8]; rfl) (by decide) rfl (fun ls hl => ?_)
            refine lv_goto (tgt := 10) hx hb dX5_place_50 (by decide) ?_
            exact ih1 x_8 lf (om_34 LP1_h0 i_8) (om_mu hn1 (om_5 i_8) (om_6 i_1)) _ _ hP hD hS ls (lv_sub hl [0, 1, 2, 3, 4] rfl)
  have k_9 : (0 : Int32).toInt = 0 := rfl
  exact LP1 ((m_n.toInt - 0 : Int).toNat + 1) 0 p1 om_35 (Nat.lt_succ_self _) _ _ hP hD hS ls (lv_sub hl [0, 1, 2, 3, 4] rfl)

set_option maxHeartbeats 4000000 in
set_option maxRecDepth 100000 in
theorem c_X5_values (l : Launch) (dC : Nat → ClassId) (dI : Nat → Nat → Nat) (h0 : Nat) (g_row : Nat) (g_many : Nat) (g_loss : Nat) (g_less : Nat) (g_voteValue : Nat) (g_voteNumber : Nat) (g_allValue : Nat) (g_allNumber : Nat) (g_nodeL : Nat) (g_nodeR : Nat) (g_part : Nat) (g_wasMany : Nat) (g_wasLoss : Nat) (g_wasValue : Nat) (g_wasNumber : Nat) (g_path : Nat) (g_heavyValue : Nat) (g_heavyTimes : Nat) (g_fewest : Nat) (g_which : Nat) (g_met : Nat) (m_n : Int32) (m_slots : Int32) (m_thrown : Int32) (m_allMany : Int32) (m_nodes : Int32) (m_partMany : Int32) (m_pathMany : Int32) (m_heavyMany : Int32) (m_mostMet : Int32) (cyI : ClassId) (f : Nat → Int32) (sz : Nat) (a0 : 0 ≤ m_n.toInt) (a1 : m_n.toInt ≤ 160) : kx_MQ l (dC, dI) yX5_values wsX5_values ({ frames := 1, cells := 0, slots := 0, locals := 45 }) [.ref h0] [kx_5 h0 g_row m_n m_slots m_thrown g_many g_loss g_less g_voteValue g_voteNumber g_allValue g_allNumber m_allMany g_nodeL g_nodeR m_nodes g_part m_partMany g_wasMany g_wasLoss g_wasValue g_wasNumber g_path m_pathMany g_heavyValue g_heavyTimes m_heavyMany g_fewest g_which g_met m_mostMet, kx_a g_row cyI 160 f] [(cyI, .int)] sz (fun A => va_Qi (fun (r : Int32) (_ : Unit) => True) (fun (_ : Unit) (t : State) => va_P (dC, dI) vwCl [kx_5 h0 g_row m_n m_slots 0 g_many g_loss g_less g_voteValue g_voteNumber g_allValue g_allNumber m_allMany g_nodeL g_nodeR m_nodes g_part m_partMany g_wasMany g_wasLoss g_wasValue g_wasNumber g_path m_pathMany g_heavyValue g_heavyTimes m_heavyMany g_fewest g_which g_met m_mostMet, kx_a g_row cyI 160 f] t.heap ∧ va_K (dC, dI) vwCl [(cyI, .int)] t ∧ va_D A [kx_5 h0 g_row m_n m_slots 0 g_many g_loss g_less g_voteValue g_voteNumber g_allValue g_allNumber m_allMany g_nodeL g_nodeR m_nodes g_part m_partMany g_wasMany g_wasLoss g_wasValue g_wasNumber g_path m_pathMany g_heavyValue g_heavyTimes m_heavyMany g_fewest g_which g_met m_mostMet, kx_a g_row cyI 160 f]) A) := by
  refine kx_stQ (ws := wsX5_values) (cc := cX5_values) (maxL := 3) (ret := (some .int)) (by decide) rfl (Nat.le_of_ble_eq_true rfl) ?_
  intro p e s m below meth c A ls hx hb hr hlocks hts hown hml hA hS hP hK hD hl
  have hown : s.vm.findClass RX5 = some m.cls := hown
  have hl : lv_has ls 3 [(0, .ref h0)] := hl
  have hf_77 := hts (.fieldLink RX5 77 "MajorityIndexModel" "thrown" "I") (List.mem_of_getElem? (i := 1) rfl)
  have hi_5 : ∀ w ∈ u_ws RX5 TX5 30, w ∈ wsX5_values := fun w h => List.mem_cons_of_mem _ (List.mem_append_right _ h)
  have hf_84 := hts (.fieldLink RX5 84 "MajorityIndexModel" "n" "I") (List.mem_of_getElem? (i := 2) rfl)
  have hf_7 := hts (.fieldLink RX5 7 "MajorityIndexModel" "row" "[I") (List.mem_of_getElem? (i := 3) rfl)
  refine lv_aload_n hx hb dX5_values_0 rfl (lv_at hl 0 rfl) ?_
  refine lv_iconst (v := 0) hx hb dX5_values_1 (by decide) ?_
  refine va_put (D := (dC, dI)) (ci := 5) (v := .int 0) (ty := .int) (C := RX5) (T := TX5) (N := 30) hx hb hts hi_5 tyX5 tyX5_ok nmX5 hown hK hP hD hS 0 rfl rfl 3 (by decide) hf_77 (fun _ h9 => h9) rfl (by decide +kernel) rfl rfl (Nat.le_of_ble_eq_true rfl) dX5_values_2 (fun H locs hP hD hS => ?_)
  obtain ⟨hP, hD⟩ := kx_re (w2 := [kx_5 h0 g_row m_n m_slots 0 g_many g_loss g_less g_voteValue g_voteNumber g_allValue g_allNumber m_allMany g_nodeL g_nodeR m_nodes g_part m_partMany g_wasMany g_wasLoss g_wasValue g_wasNumber g_path m_pathMany g_heavyValue g_heavyTimes m_heavyMany g_fewest g_which g_met m_mostMet, kx_a g_row cyI 160 f]) hP hD rfl
  refine lv_iconst (v := 0) hx hb dX5_values_5 (by decide) ?_
  refine lv_istore_n (lv' := [(1, .int 0), (0, .ref h0)]) hx hb dX5_values_6 rfl hl (by decide) rfl (fun ls hl => ?_)
  refine lv_iconst (v := 0) hx hb dX5_values_7 (by decide) ?_
  refine lv_istore_n (lv' := [(2, .int 0), (1, .int 0), (0, .ref h0)]) hx hb dX5_values_8 rfl hl (by decide) rfl (fun ls hl => ?_)
  have LP1 : ∀ (n : Nat) (i : Int32) (sm : Int32), (0 ≤ i.toInt) → (m_n.toInt - i.toInt).toNat < n → ∀ (H : Heap) (locs : List Loc), va_P (dC, dI) vwCl [kx_5 h0 g_row m_n m_slots 0 g_many g_loss g_less g_voteValue g_voteNumber g_allValue g_allNumber m_allMany g_nodeL g_nodeR m_nodes g_part m_partMany g_wasMany g_wasLoss g_wasValue g_wasNumber g_path m_pathMany g_heavyValue g_heavyTimes m_heavyMany g_fewest g_which g_met m_mostMet, kx_a g_row cyI 160 f] H → va_D A [kx_5 h0 g_row m_n m_slots 0 g_many g_loss g_less g_voteValue g_voteNumber g_allValue g_allNumber m_allMany g_nodeL g_nodeR m_nodes g_part m_partMany g_wasMany g_wasLoss g_wasValue g_wasNumber g_path m_pathMany g_heavyValue g_heavyTimes m_heavyMany g_fewest g_which g_met m_mostMet, kx_a g_row cyI 160 f] → va_S A s.heap H locs → ∀ (ls : Array Slot), lv_has ls 3 [(2, .int i), (1, .int sm), (0, .ref h0)] → W p l e (headSpec wsX5_values ({ frames := 1, cells := 0, slots := 0, locals := 45 })).room s m ([.ref h0] : List Value).toArray below meth c H locs 0 0 (MQ below (va_Qi (fun (r : Int32) (_ : Unit) => True) (fun (_ : Unit) (t : State) => va_P (dC, dI) vwCl [kx_5 h0 g_row m_n m_slots 0 g_many g_loss g_less g_voteValue g_voteNumber g_allValue g_allNumber m_allMany g_nodeL g_nodeR m_nodes g_part m_partMany g_wasMany g_wasLoss g_wasValue g_wasNumber g_path m_pathMany g_heavyValue g_heavyTimes m_heavyMany g_fewest g_which g_met m_mostMet, kx_a g_row cyI 160 f] t.heap ∧ va_K (dC, dI) vwCl [(cyI, .int)] t ∧ va_D A [kx_5 h0 g_row m_n m_slots 0 g_many g_loss g_less g_voteValue g_voteNumber g_allValue g_allNumber m_allMany g_nodeL g_nodeR m_nodes g_part m_partMany g_wasMany g_wasLoss g_wasValue g_wasNumber g_path m_pathMany g_heavyValue g_heavyTimes m_heavyMany g_fewest g_which g_met m_mostMet, kx_a g_row cyI 160 f]) A) ([.ref h0] : List Value).toArray s 0 0 A) (F0 m 9 ls []) := by
    intro n
    induction n with
    | zero => intro i sm LP1_h0 hn; exact absurd hn (Nat.not_lt_zero _)
    | succ n ih1 =>
      intro i sm LP1_h0 hn1 H locs hP hD hS ls hl
      refine lv_iload_n hx hb dX5_values_9 rfl (lv_at hl 0 rfl) ?_
      refine lv_aload_n hx hb dX5_values_10 rfl (lv_at hl 2 rfl) ?_
      refine va_get (D := (dC, dI)) (ci := 5) (v := .int m_n) (C := RX5) (T := TX5) (N := 30) hx hb hts hi_5 hown hK hP 0 rfl rfl 1 (by decide) hf_84 (fun _ h9 => h9) rfl dX5_values_11 ?_
      refine lv_icmp_ge (tgt := 41) hx hb dX5_values_14 (by decide) (fun c_1 => ?_) (fun c_1 => ?_)
      · have i_1 : m_n.toInt ≤ i.toInt := kc_le c_1
        refine lv_iload_n hx hb dX5_values_41 rfl (lv_at hl 1 rfl) ?_
        have hP9 := hP
        have hD9 := hD
        have hK9 := hK
        exact W.iret (v := sm) hx hb hr (hlocks := hlocks) (fun t ht hW => ⟨⟨sm, (), rfl, trivial, by rw [ht]; exact hP9, va_K.moved hW.alike hK9, hD9⟩, hS.F ht⟩) hS.2.2 dX5_values_42
      · have i_1 : i.toInt < m_n.toInt := kc_nle c_1
        refine lv_aload_n hx hb dX5_values_17 rfl (lv_at hl 2 rfl) ?_
        refine lv_aload_n hx hb dX5_values_18 rfl (lv_at hl 2 rfl) ?_
        refine va_get (D := (dC, dI)) (ci := 5) (v := .ref g_row) (C := RX5) (T := TX5) (N := 30) hx hb hts hi_5 hown hK hP 0 rfl rfl 0 (by decide) hf_7 (fun _ h9 => h9) rfl dX5_values_19 ?_
        refine lv_iload_n hx hb dX5_values_22 rfl (lv_at hl 0 rfl) ?_
        refine va_iald hx hb hK hP 1 0 rfl rfl (ki_in (om_10 LP1_h0) (om_1 a1 i_1)) dX5_values_23 ?_
        refine lv_topi (fun y_2 ey_2 => ?_)
        have j_2 : y_2.toInt = (f i.toNatClampNeg).toInt := congrArg Int32.toInt ey_2
        refine lv_iconst (v := 0) hx hb dX5_values_24 (by decide) ?_
        refine lv_iload_n hx hb dX5_values_25 rfl (lv_at hl 0 rfl) ?_
        have hPc := hP
        have hKc := hK
        have k_3 : (0 : Int32).toInt = 0 := rfl
        refine vp_callSi (W.runV (As := [.int y_2, .int 0, .int i]) (rest := []) ⟨hx, hb, hml, hown, hts⟩ (c_X5_times l dC dI h0 g_row g_many g_loss g_less g_voteValue g_voteNumber g_allValue g_allNumber g_nodeL g_nodeR g_part g_wasMany g_wasLoss g_wasValue g_wasNumber g_path g_heavyValue g_heavyTimes g_fewest g_which g_met m_n m_slots 0 m_allMany m_nodes m_partMany m_pathMany m_heavyMany m_mostMet cyI f y_2 0 i om_35 (om_202 a1 i_1)) (cwV 3 hts gX5_values_X5_times rfl rfl rfl (by decide +kernel) ⟨Nat.le_of_ble_eq_true rfl, Nat.le_of_ble_eq_true rfl⟩) ⟨fun a U g mk q => by obtain ⟨q0, qP, qK⟩ := q; exact ⟨q0, qP, va_K.moved (u := U) (U := U.calling g mk a) (Vm.Alike.refl U.vm) qK⟩, kx_rc5 hKc hPc (q0 := 0) rfl, fun U hU hW => ⟨rfl, by rw [hU]; exact hPc, va_K.moved hW.alike hKc⟩⟩ rfl rfl hl.1 rfl (lv_room (Nat.le_of_ble_eq_true rfl)) dX5_values_26 ⟨Nat.le_of_ble_eq_true rfl, Nat.le_of_ble_eq_true rfl⟩) (fun r_4 w_4 => ?_)
        have w_4 : r_4.toInt = (cnt f y_2 (0 : Int32).toNatClampNeg (i.toInt - 0).toNat : Int) := w_4
        refine lv_if_ne (tgt := 35) hx hb dX5_values_29 (by decide) (fun c_5 => ?_) (fun c_5 => ?_)
        · have i_5 : ¬ r_4.toInt = 0 := kc_ne c_5
          obtain ⟨x_6, ex_6⟩ : ∃ y : Int32, y = i + 1 := ⟨_, rfl⟩
          have i_6 : x_6.toInt = i.toInt + 1 := ki_add ex_6 rfl rfl (om_13 LP1_h0) (om_3 a1 i_1)
          refine lv_iinc (v := x_6) (lv' := [(2, .int x_6), (1, .int sm), (0, .ref h0)]) hx hb dX5_values_35 hl (k := 0) rfl (by rw [ex_6]; rfl) (by decide) rfl (fun ls hl => ?_)
          refine lv_goto (tgt := 9) hx hb dX5_values_38 (by decide) ?_
          exact ih1 x_6 sm (om_34 LP1_h0 i_6) (om_mu hn1 (om_5 i_6) (om_6 i_1)) _ _ hP hD hS ls (lv_sub hl [0, 1, 2] rfl)
        · have i_5 : r_4.toInt = 0 := kc_eq c_5
          obtain ⟨x_7, ex_7⟩ : ∃ y : Int32, y = sm + 1 := ⟨_, rfl⟩
          refine lv_iinc (v := x_7) (lv' := [(1, .int x_7), (2, .int i), (0, .ref h0)]) hx hb dX5_values_32 hl (k := 1) rfl (by rw [ex_7]; rfl) (by decide) rfl (fun ls hl => ?_)
          obtain ⟨x_8, ex_8⟩ : ∃ y : Int32, y = i + 1 := ⟨_, rfl⟩
          have i_8 : x_8.toInt = i.toInt + 1 := ki_add ex_8 rfl rfl (om_13 LP1_h0) (om_3 a1 i_1)
          refine lv_iinc (v := x_8) (lv' := [(2, .int x_8), (1, .int x_7), (0, .ref h0)]) hx hb dX5_values_35 hl (k := 1) rfl (by rw [ex_8]; rfl) (by decide) rfl (fun ls hl => ?_)
          refine lv_goto (tgt := 9) hx hb dX5_values_38 (by decide) ?_
          exact ih1 x_8 x_7 (om_34 LP1_h0 i_8) (om_mu hn1 (om_5 i_8) (om_6 i_1)) _ _ hP hD hS ls (lv_sub hl [0, 1, 2] rfl)
  have k_9 : (0 : Int32).toInt = 0 := rfl
  have k_10 : (0 : Int32).toInt = 0 := rfl
  exact LP1 ((m_n.toInt - 0 : Int).toNat + 1) 0 0 om_35 (Nat.lt_succ_self _) _ _ hP hD hS ls (lv_sub hl [0, 1, 2] rfl)

set_option maxHeartbeats 4000000 in
set_option maxRecDepth 100000 in
theorem c_X5_majority (l : Launch) (dC : Nat → ClassId) (dI : Nat → Nat → Nat) (h0 : Nat) (g_row : Nat) (g_many : Nat) (g_loss : Nat) (g_less : Nat) (g_voteValue : Nat) (g_voteNumber : Nat) (g_allValue : Nat) (g_allNumber : Nat) (g_nodeL : Nat) (g_nodeR : Nat) (g_part : Nat) (g_wasMany : Nat) (g_wasLoss : Nat) (g_wasValue : Nat) (g_wasNumber : Nat) (g_path : Nat) (g_heavyValue : Nat) (g_heavyTimes : Nat) (g_fewest : Nat) (g_which : Nat) (g_met : Nat) (m_n : Int32) (m_slots : Int32) (m_thrown : Int32) (m_allMany : Int32) (m_nodes : Int32) (m_partMany : Int32) (m_pathMany : Int32) (m_heavyMany : Int32) (m_mostMet : Int32) (cyI : ClassId) (f : Nat → Int32) (p0 : Int32) (p1 : Int32) (sz : Nat) (a0 : 0 ≤ m_n.toInt) (a1 : m_n.toInt ≤ 160) : kx_MQ l (dC, dI) yX5_majority wsX5_majority ({ frames := 2, cells := 0, slots := 0, locals := 90 }) [.ref h0, .int p0, .int p1] [kx_5 h0 g_row m_n m_slots m_thrown g_many g_loss g_less g_voteValue g_voteNumber g_allValue g_allNumber m_allMany g_nodeL g_nodeR m_nodes g_part m_partMany g_wasMany g_wasLoss g_wasValue g_wasNumber g_path m_pathMany g_heavyValue g_heavyTimes m_heavyMany g_fewest g_which g_met m_mostMet, kx_a g_row cyI 160 f] [(cyI, .int)] sz (fun A => va_Qi (fun (r : Int32) (_ : Unit) => True) (fun (_ : Unit) (t : State) => va_P (dC, dI) vwCl [kx_5 h0 g_row m_n m_slots 0 g_many g_loss g_less g_voteValue g_voteNumber g_allValue g_allNumber m_allMany g_nodeL g_nodeR m_nodes g_part m_partMany g_wasMany g_wasLoss g_wasValue g_wasNumber g_path m_pathMany g_heavyValue g_heavyTimes m_heavyMany g_fewest g_which g_met m_mostMet, kx_a g_row cyI 160 f] t.heap ∧ va_K (dC, dI) vwCl [(cyI, .int)] t ∧ va_D A [kx_5 h0 g_row m_n m_slots 0 g_many g_loss g_less g_voteValue g_voteNumber g_allValue g_allNumber m_allMany g_nodeL g_nodeR m_nodes g_part m_partMany g_wasMany g_wasLoss g_wasValue g_wasNumber g_path m_pathMany g_heavyValue g_heavyTimes m_heavyMany g_fewest g_which g_met m_mostMet, kx_a g_row cyI 160 f]) A) := by
  refine kx_stQ (ws := wsX5_majority) (cc := cX5_majority) (maxL := 3) (ret := (some .int)) (by decide) rfl (Nat.le_of_ble_eq_true rfl) ?_
  intro p e s m below meth c A ls hx hb hr hlocks hts hown hml hA hS hP hK hD hl
  have hown : s.vm.findClass RX5 = some m.cls := hown
  have hl : lv_has ls 3 [(0, .ref h0), (1, .int p0), (2, .int p1)] := hl
  have hf_77 := hts (.fieldLink RX5 77 "MajorityIndexModel" "thrown" "I") (List.mem_of_getElem? (i := 1) rfl)
  have hi_5 : ∀ w ∈ u_ws RX5 TX5 30, w ∈ wsX5_majority := fun w h => List.mem_cons_of_mem _ (List.mem_append_right _ h)
  have hk_148 := hts (.constant RX5 148 (-40000)) (List.mem_of_getElem? (i := 2) rfl)
  refine lv_aload_n hx hb dX5_majority_0 rfl (lv_at hl 0 rfl) ?_
  refine lv_iconst (v := 0) hx hb dX5_majority_1 (by decide) ?_
  refine va_put (D := (dC, dI)) (ci := 5) (v := .int 0) (ty := .int) (C := RX5) (T := TX5) (N := 30) hx hb hts hi_5 tyX5 tyX5_ok nmX5 hown hK hP hD hS 0 rfl rfl 3 (by decide) hf_77 (fun _ h9 => h9) rfl (by decide +kernel) rfl rfl (Nat.le_of_ble_eq_true rfl) dX5_majority_2 (fun H locs hP hD hS => ?_)
  obtain ⟨hP, hD⟩ := kx_re (w2 := [kx_5 h0 g_row m_n m_slots 0 g_many g_loss g_less g_voteValue g_voteNumber g_allValue g_allNumber m_allMany g_nodeL g_nodeR m_nodes g_part m_partMany g_wasMany g_wasLoss g_wasValue g_wasNumber g_path m_pathMany g_heavyValue g_heavyTimes m_heavyMany g_fewest g_which g_met m_mostMet, kx_a g_row cyI 160 f]) hP hD rfl
  refine lv_aload_n hx hb dX5_majority_5 rfl (lv_at hl 0 rfl) ?_
  refine lv_iload_n hx hb dX5_majority_6 rfl (lv_at hl 1 rfl) ?_
  refine lv_iload_n hx hb dX5_majority_7 rfl (lv_at hl 2 rfl) ?_
  have hPc := hP.sub (ws' := [kx_5 h0 g_row m_n m_slots 0 g_many g_loss g_less g_voteValue g_voteNumber g_allValue g_allNumber m_allMany g_nodeL g_nodeR m_nodes g_part m_partMany g_wasMany g_wasLoss g_wasValue g_wasNumber g_path m_pathMany g_heavyValue g_heavyTimes m_heavyMany g_fewest g_which g_met m_mostMet]) [0] rfl
  have hKc := hK.sub (tys' := []) [] rfl
  refine vp_callSi (W.runV (As := [.int p0, .int p1]) (rest := []) ⟨hx, hb, hml, hown, hts⟩ (c_X5_isRange l dC dI h0 g_row g_many g_loss g_less g_voteValue g_voteNumber g_allValue g_allNumber g_nodeL g_nodeR g_part g_wasMany g_wasLoss g_wasValue g_wasNumber g_path g_heavyValue g_heavyTimes g_fewest g_which g_met m_n m_slots 0 m_allMany m_nodes m_partMany m_pathMany m_heavyMany m_mostMet p0 p1) (cwV 2 hts gX5_majority_X5_isRange rfl rfl rfl (by decide +kernel) ⟨Nat.le_of_ble_eq_true rfl, Nat.le_of_ble_eq_true rfl⟩) ⟨fun a U g mk q => by obtain ⟨q0, qP, qK⟩ := q; exact ⟨q0, qP, va_K.moved (u := U) (U := U.calling g mk a) (Vm.Alike.refl U.vm) qK⟩, kx_rc5 hKc hPc (q0 := 0) rfl, fun U hU hW => ⟨rfl, by rw [hU]; exact hPc, va_K.moved hW.alike hKc⟩⟩ rfl rfl hl.1 rfl (lv_room (Nat.le_of_ble_eq_true rfl)) dX5_majority_8 ⟨Nat.le_of_ble_eq_true rfl, Nat.le_of_ble_eq_true rfl⟩) (fun r_1 w_1 => ?_)
  rcases w_1 with ⟨rfl, w_1⟩ | ⟨rfl, w_1⟩
  · have w_1 : (0 ≤ p0.toInt ∧ p0.toInt < p1.toInt ∧ p1.toInt ≤ m_n.toInt) := w_1
    refine lv_if_eq (tgt := 23) hx hb dX5_majority_11 (by decide) (fun c_2 => ?_) (fun c_2 => ?_)
    · exact absurd c_2 (by decide)
    · refine lv_aload_n hx hb dX5_majority_14 rfl (lv_at hl 0 rfl) ?_
      refine lv_iload_n hx hb dX5_majority_15 rfl (lv_at hl 1 rfl) ?_
      refine lv_iload_n hx hb dX5_majority_16 rfl (lv_at hl 2 rfl) ?_
      have hPc := hP
      have hKc := hK
      refine vp_callSi (W.runV (As := [.int p0, .int p1]) (rest := []) ⟨hx, hb, hml, hown, hts⟩ (c_X5_majorityOf l dC dI h0 g_row g_many g_loss g_less g_voteValue g_voteNumber g_allValue g_allNumber g_nodeL g_nodeR g_part g_wasMany g_wasLoss g_wasValue g_wasNumber g_path g_heavyValue g_heavyTimes g_fewest g_which g_met m_n m_slots 0 m_allMany m_nodes m_partMany m_pathMany m_heavyMany m_mostMet cyI f p0 p1 (om_10 w_1.1) (om_167 a1 w_1.2.2)) (cwV 2 hts gX5_majority_X5_majorityOf rfl rfl rfl (by decide +kernel) ⟨Nat.le_of_ble_eq_true rfl, Nat.le_of_ble_eq_true rfl⟩) ⟨fun a U g mk q => by obtain ⟨q0, qP, qK⟩ := q; exact ⟨q0, qP, va_K.moved (u := U) (U := U.calling g mk a) (Vm.Alike.refl U.vm) qK⟩, kx_rc5 hKc hPc (q0 := 0) rfl, fun U hU hW => ⟨rfl, by rw [hU]; exact hPc, va_K.moved hW.alike hKc⟩⟩ rfl rfl hl.1 rfl (lv_room (Nat.le_of_ble_eq_true rfl)) dX5_majority_17 ⟨Nat.le_of_ble_eq_true rfl, Nat.le_of_ble_eq_true rfl⟩) (fun r_3 w_3 => ?_)
      refine lv_goto (tgt := 25) hx hb dX5_majority_20 (by decide) ?_
      have hP9 := hP
      have hD9 := hD
      have hK9 := hK
      exact W.iret (v := r_3) hx hb hr (hlocks := hlocks) (fun t ht hW => ⟨⟨r_3, (), rfl, trivial, by rw [ht]; exact hP9, va_K.moved hW.alike hK9, hD9⟩, hS.F ht⟩) hS.2.2 dX5_majority_25
  · have w_1 : (p0.toInt < 0 ∨ p1.toInt ≤ p0.toInt ∨ m_n.toInt < p1.toInt) := w_1
    refine lv_if_eq (tgt := 23) hx hb dX5_majority_11 (by decide) (fun c_4 => ?_) (fun c_4 => ?_)
    · refine lv_ldc (v := (-40000)) hx hb hown hk_148 dX5_majority_23 ?_
      have hP9 := hP
      have hD9 := hD
      have hK9 := hK
      exact W.iret (v := (-40000)) hx hb hr (hlocks := hlocks) (fun t ht hW => ⟨⟨(-40000), (), rfl, trivial, by rw [ht]; exact hP9, va_K.moved hW.alike hK9, hD9⟩, hS.F ht⟩) hS.2.2 dX5_majority_25
    · exact absurd c_4 (by decide)

set_option maxHeartbeats 4000000 in
set_option maxRecDepth 100000 in
theorem c_X5_margin (l : Launch) (dC : Nat → ClassId) (dI : Nat → Nat → Nat) (h0 : Nat) (g_row : Nat) (g_many : Nat) (g_loss : Nat) (g_less : Nat) (g_voteValue : Nat) (g_voteNumber : Nat) (g_allValue : Nat) (g_allNumber : Nat) (g_nodeL : Nat) (g_nodeR : Nat) (g_part : Nat) (g_wasMany : Nat) (g_wasLoss : Nat) (g_wasValue : Nat) (g_wasNumber : Nat) (g_path : Nat) (g_heavyValue : Nat) (g_heavyTimes : Nat) (g_fewest : Nat) (g_which : Nat) (g_met : Nat) (m_n : Int32) (m_slots : Int32) (m_thrown : Int32) (m_allMany : Int32) (m_nodes : Int32) (m_partMany : Int32) (m_pathMany : Int32) (m_heavyMany : Int32) (m_mostMet : Int32) (cyI : ClassId) (f : Nat → Int32) (p0 : Int32) (p1 : Int32) (p2 : Int32) (sz : Nat) (a0 : 0 ≤ m_n.toInt) (a1 : m_n.toInt ≤ 160) : kx_MQ l (dC, dI) yX5_margin wsX5_margin ({ frames := 2, cells := 0, slots := 0, locals := 90 }) [.ref h0, .int p0, .int p1, .int p2] [kx_5 h0 g_row m_n m_slots m_thrown g_many g_loss g_less g_voteValue g_voteNumber g_allValue g_allNumber m_allMany g_nodeL g_nodeR m_nodes g_part m_partMany g_wasMany g_wasLoss g_wasValue g_wasNumber g_path m_pathMany g_heavyValue g_heavyTimes m_heavyMany g_fewest g_which g_met m_mostMet, kx_a g_row cyI 160 f] [(cyI, .int)] sz (fun A => va_Qi (fun (r : Int32) (_ : Unit) => True) (fun (_ : Unit) (t : State) => va_P (dC, dI) vwCl [kx_5 h0 g_row m_n m_slots 0 g_many g_loss g_less g_voteValue g_voteNumber g_allValue g_allNumber m_allMany g_nodeL g_nodeR m_nodes g_part m_partMany g_wasMany g_wasLoss g_wasValue g_wasNumber g_path m_pathMany g_heavyValue g_heavyTimes m_heavyMany g_fewest g_which g_met m_mostMet, kx_a g_row cyI 160 f] t.heap ∧ va_K (dC, dI) vwCl [(cyI, .int)] t ∧ va_D A [kx_5 h0 g_row m_n m_slots 0 g_many g_loss g_less g_voteValue g_voteNumber g_allValue g_allNumber m_allMany g_nodeL g_nodeR m_nodes g_part m_partMany g_wasMany g_wasLoss g_wasValue g_wasNumber g_path m_pathMany g_heavyValue g_heavyTimes m_heavyMany g_fewest g_which g_met m_mostMet, kx_a g_row cyI 160 f]) A) := by
  refine kx_stQ (ws := wsX5_margin) (cc := cX5_margin) (maxL := 4) (ret := (some .int)) (by decide) rfl (Nat.le_of_ble_eq_true rfl) ?_
  intro p e s m below meth c A ls hx hb hr hlocks hts hown hml hA hS hP hK hD hl
  have hown : s.vm.findClass RX5 = some m.cls := hown
  have hl : lv_has ls 4 [(0, .ref h0), (1, .int p0), (2, .int p1), (3, .int p2)] := hl
  have hf_77 := hts (.fieldLink RX5 77 "MajorityIndexModel" "thrown" "I") (List.mem_of_getElem? (i := 1) rfl)
  have hi_5 : ∀ w ∈ u_ws RX5 TX5 30, w ∈ wsX5_margin := fun w h => List.mem_cons_of_mem _ (List.mem_append_right _ h)
  have hk_148 := hts (.constant RX5 148 (-40000)) (List.mem_of_getElem? (i := 2) rfl)
  refine lv_aload_n hx hb dX5_margin_0 rfl (lv_at hl 0 rfl) ?_
  refine lv_iconst (v := 0) hx hb dX5_margin_1 (by decide) ?_
  refine va_put (D := (dC, dI)) (ci := 5) (v := .int 0) (ty := .int) (C := RX5) (T := TX5) (N := 30) hx hb hts hi_5 tyX5 tyX5_ok nmX5 hown hK hP hD hS 0 rfl rfl 3 (by decide) hf_77 (fun _ h9 => h9) rfl (by decide +kernel) rfl rfl (Nat.le_of_ble_eq_true rfl) dX5_margin_2 (fun H locs hP hD hS => ?_)
  obtain ⟨hP, hD⟩ := kx_re (w2 := [kx_5 h0 g_row m_n m_slots 0 g_many g_loss g_less g_voteValue g_voteNumber g_allValue g_allNumber m_allMany g_nodeL g_nodeR m_nodes g_part m_partMany g_wasMany g_wasLoss g_wasValue g_wasNumber g_path m_pathMany g_heavyValue g_heavyTimes m_heavyMany g_fewest g_which g_met m_mostMet, kx_a g_row cyI 160 f]) hP hD rfl
  refine lv_iload_n hx hb dX5_margin_5 rfl (lv_at hl 1 rfl) ?_
  have hPc := hP.sub (ws' := []) [] rfl
  have hKc := hK.sub (tys' := []) [] rfl
  refine vp_callSi (W.runS (As := [.int p0]) (rest := []) ⟨hx, hb, hml, hown, hts⟩ (c_X5_isValue l dC dI p0) (va_cwS 1 hts gX5_margin_X5_isValue rfl rfl rfl (by decide +kernel) ⟨Nat.le_of_ble_eq_true rfl, Nat.le_of_ble_eq_true rfl⟩) ⟨fun a U g mk q => by obtain ⟨q0, qP, qK⟩ := q; exact ⟨q0, qP, va_K.moved (u := U) (U := U.calling g mk a) (Vm.Alike.refl U.vm) qK⟩, fun U hU hW => ⟨rfl, by rw [hU]; exact hPc, va_K.moved hW.alike hKc⟩⟩ rfl rfl hl.1 rfl (lv_room (Nat.le_of_ble_eq_true rfl)) dX5_margin_6 ⟨Nat.le_of_ble_eq_true rfl, Nat.le_of_ble_eq_true rfl⟩) (fun r_1 w_1 => ?_)
  rcases w_1 with ⟨rfl, w_1⟩ | ⟨rfl, w_1⟩
  · have w_1 : (-32768 ≤ p0.toInt ∧ p0.toInt ≤ 32767) := w_1
    refine lv_if_eq (tgt := 37) hx hb dX5_margin_9 (by decide) (fun c_2 => ?_) (fun c_2 => ?_)
    · exact absurd c_2 (by decide)
    · refine lv_aload_n hx hb dX5_margin_12 rfl (lv_at hl 0 rfl) ?_
      refine lv_iload_n hx hb dX5_margin_13 rfl (lv_at hl 2 rfl) ?_
      refine lv_iload_n hx hb dX5_margin_14 rfl (lv_at hl 3 rfl) ?_
      have hPc := hP.sub (ws' := [kx_5 h0 g_row m_n m_slots 0 g_many g_loss g_less g_voteValue g_voteNumber g_allValue g_allNumber m_allMany g_nodeL g_nodeR m_nodes g_part m_partMany g_wasMany g_wasLoss g_wasValue g_wasNumber g_path m_pathMany g_heavyValue g_heavyTimes m_heavyMany g_fewest g_which g_met m_mostMet]) [0] rfl
      have hKc := hK.sub (tys' := []) [] rfl
      refine vp_callSi (W.runV (As := [.int p1, .int p2]) (rest := []) ⟨hx, hb, hml, hown, hts⟩ (c_X5_isRange l dC dI h0 g_row g_many g_loss g_less g_voteValue g_voteNumber g_allValue g_allNumber g_nodeL g_nodeR g_part g_wasMany g_wasLoss g_wasValue g_wasNumber g_path g_heavyValue g_heavyTimes g_fewest g_which g_met m_n m_slots 0 m_allMany m_nodes m_partMany m_pathMany m_heavyMany m_mostMet p1 p2) (cwV 2 hts gX5_margin_X5_isRange rfl rfl rfl (by decide +kernel) ⟨Nat.le_of_ble_eq_true rfl, Nat.le_of_ble_eq_true rfl⟩) ⟨fun a U g mk q => by obtain ⟨q0, qP, qK⟩ := q; exact ⟨q0, qP, va_K.moved (u := U) (U := U.calling g mk a) (Vm.Alike.refl U.vm) qK⟩, kx_rc5 hKc hPc (q0 := 0) rfl, fun U hU hW => ⟨rfl, by rw [hU]; exact hPc, va_K.moved hW.alike hKc⟩⟩ rfl rfl hl.1 rfl (lv_room (Nat.le_of_ble_eq_true rfl)) dX5_margin_15 ⟨Nat.le_of_ble_eq_true rfl, Nat.le_of_ble_eq_true rfl⟩) (fun r_3 w_3 => ?_)
      rcases w_3 with ⟨rfl, w_3⟩ | ⟨rfl, w_3⟩
      · have w_3 : (0 ≤ p1.toInt ∧ p1.toInt < p2.toInt ∧ p2.toInt ≤ m_n.toInt) := w_3
        refine lv_if_eq (tgt := 37) hx hb dX5_margin_18 (by decide) (fun c_4 => ?_) (fun c_4 => ?_)
        · exact absurd c_4 (by decide)
        · refine lv_iconst (v := 2) hx hb dX5_margin_21 (by decide) ?_
          refine lv_aload_n hx hb dX5_margin_22 rfl (lv_at hl 0 rfl) ?_
          refine lv_iload_n hx hb dX5_margin_23 rfl (lv_at hl 1 rfl) ?_
          refine lv_iload_n hx hb dX5_margin_24 rfl (lv_at hl 2 rfl) ?_
          refine lv_iload_n hx hb dX5_margin_25 rfl (lv_at hl 3 rfl) ?_
          have hPc := hP
          have hKc := hK
          refine vp_callSi (W.runV (As := [.int p0, .int p1, .int p2]) (rest := [.int 2]) ⟨hx, hb, hml, hown, hts⟩ (c_X5_times l dC dI h0 g_row g_many g_loss g_less g_voteValue g_voteNumber g_allValue g_allNumber g_nodeL g_nodeR g_part g_wasMany g_wasLoss g_wasValue g_wasNumber g_path g_heavyValue g_heavyTimes g_fewest g_which g_met m_n m_slots 0 m_allMany m_nodes m_partMany m_pathMany m_heavyMany m_mostMet cyI f p0 p1 p2 (om_10 w_3.1) (om_167 a1 w_3.2.2)) (cwV 3 hts gX5_margin_X5_times rfl rfl rfl (by decide +kernel) ⟨Nat.le_of_ble_eq_true rfl, Nat.le_of_ble_eq_true rfl⟩) ⟨fun a U g mk q => by obtain ⟨q0, qP, qK⟩ := q; exact ⟨q0, qP, va_K.moved (u := U) (U := U.calling g mk a) (Vm.Alike.refl U.vm) qK⟩, kx_rc5 hKc hPc (q0 := 0) rfl, fun U hU hW => ⟨rfl, by rw [hU]; exact hPc, va_K.moved hW.alike hKc⟩⟩ rfl rfl hl.1 rfl (lv_room (Nat.le_of_ble_eq_true rfl)) dX5_margin_26 ⟨Nat.le_of_ble_eq_true rfl, Nat.le_of_ble_eq_true rfl⟩) (fun r_5 w_5 => ?_)
          have w_5 : r_5.toInt = (cnt f p0 p1.toNatClampNeg (p2.toInt - p1.toInt).toNat : Int) := w_5
          refine lv_imul hx hb dX5_margin_29 ?_
          refine lv_topi (fun y_6 ey_6 => ?_)
          refine lv_iload_n hx hb dX5_margin_30 rfl (lv_at hl 3 rfl) ?_
          refine lv_iload_n hx hb dX5_margin_31 rfl (lv_at hl 2 rfl) ?_
          refine lv_isub hx hb dX5_margin_32 ?_
          refine lv_topi (fun y_7 ey_7 => ?_)
          have i_7 : y_7.toInt = p2.toInt - p1.toInt := ki_sub ey_7 rfl rfl (om_168 w_3.2.1) (om_169 a1 w_3.1 w_3.2.2)
          refine lv_isub hx hb dX5_margin_33 ?_
          refine lv_topi (fun y_8 ey_8 => ?_)
          refine lv_goto (tgt := 39) hx hb dX5_margin_34 (by decide) ?_
          have hP9 := hP
          have hD9 := hD
          have hK9 := hK
          exact W.iret (v := y_8) hx hb hr (hlocks := hlocks) (fun t ht hW => ⟨⟨y_8, (), rfl, trivial, by rw [ht]; exact hP9, va_K.moved hW.alike hK9, hD9⟩, hS.F ht⟩) hS.2.2 dX5_margin_39
      · have w_3 : (p1.toInt < 0 ∨ p2.toInt ≤ p1.toInt ∨ m_n.toInt < p2.toInt) := w_3
        refine lv_if_eq (tgt := 37) hx hb dX5_margin_18 (by decide) (fun c_9 => ?_) (fun c_9 => ?_)
        · refine lv_ldc (v := (-40000)) hx hb hown hk_148 dX5_margin_37 ?_
          have hP9 := hP
          have hD9 := hD
          have hK9 := hK
          exact W.iret (v := (-40000)) hx hb hr (hlocks := hlocks) (fun t ht hW => ⟨⟨(-40000), (), rfl, trivial, by rw [ht]; exact hP9, va_K.moved hW.alike hK9, hD9⟩, hS.F ht⟩) hS.2.2 dX5_margin_39
        · exact absurd c_9 (by decide)
  · have w_1 : (p0.toInt < -32768 ∨ 32767 < p0.toInt) := w_1
    refine lv_if_eq (tgt := 37) hx hb dX5_margin_9 (by decide) (fun c_10 => ?_) (fun c_10 => ?_)
    · refine lv_ldc (v := (-40000)) hx hb hown hk_148 dX5_margin_37 ?_
      have hP9 := hP
      have hD9 := hD
      have hK9 := hK
      exact W.iret (v := (-40000)) hx hb hr (hlocks := hlocks) (fun t ht hW => ⟨⟨(-40000), (), rfl, trivial, by rw [ht]; exact hP9, va_K.moved hW.alike hK9, hD9⟩, hS.F ht⟩) hS.2.2 dX5_margin_39
    · exact absurd c_10 (by decide)

set_option maxHeartbeats 4000000 in
set_option maxRecDepth 100000 in
theorem c_X5_longest (l : Launch) (dC : Nat → ClassId) (dI : Nat → Nat → Nat) (h0 : Nat) (g_row : Nat) (g_many : Nat) (g_loss : Nat) (g_less : Nat) (g_voteValue : Nat) (g_voteNumber : Nat) (g_allValue : Nat) (g_allNumber : Nat) (g_nodeL : Nat) (g_nodeR : Nat) (g_part : Nat) (g_wasMany : Nat) (g_wasLoss : Nat) (g_wasValue : Nat) (g_wasNumber : Nat) (g_path : Nat) (g_heavyValue : Nat) (g_heavyTimes : Nat) (g_fewest : Nat) (g_which : Nat) (g_met : Nat) (m_n : Int32) (m_slots : Int32) (m_thrown : Int32) (m_allMany : Int32) (m_nodes : Int32) (m_partMany : Int32) (m_pathMany : Int32) (m_heavyMany : Int32) (m_mostMet : Int32) (cyI : ClassId) (f : Nat → Int32) (p0 : Int32) (p1 : Int32) (p2 : Int32) (p3 : Int32) (sz : Nat) (a0 : 0 ≤ m_n.toInt) (a1 : m_n.toInt ≤ 160) : kx_MQ l (dC, dI) yX5_longest wsX5_longest ({ frames := 2, cells := 0, slots := 0, locals := 90 }) [.ref h0, .int p0, .int p1, .int p2, .int p3] [kx_5 h0 g_row m_n m_slots m_thrown g_many g_loss g_less g_voteValue g_voteNumber g_allValue g_allNumber m_allMany g_nodeL g_nodeR m_nodes g_part m_partMany g_wasMany g_wasLoss g_wasValue g_wasNumber g_path m_pathMany g_heavyValue g_heavyTimes m_heavyMany g_fewest g_which g_met m_mostMet, kx_a g_row cyI 160 f] [(cyI, .int)] sz (fun A => va_Qi (fun (r : Int32) (_ : Unit) => True) (fun (_ : Unit) (t : State) => va_P (dC, dI) vwCl [kx_5 h0 g_row m_n m_slots 0 g_many g_loss g_less g_voteValue g_voteNumber g_allValue g_allNumber m_allMany g_nodeL g_nodeR m_nodes g_part m_partMany g_wasMany g_wasLoss g_wasValue g_wasNumber g_path m_pathMany g_heavyValue g_heavyTimes m_heavyMany g_fewest g_which g_met m_mostMet, kx_a g_row cyI 160 f] t.heap ∧ va_K (dC, dI) vwCl [(cyI, .int)] t ∧ va_D A [kx_5 h0 g_row m_n m_slots 0 g_many g_loss g_less g_voteValue g_voteNumber g_allValue g_allNumber m_allMany g_nodeL g_nodeR m_nodes g_part m_partMany g_wasMany g_wasLoss g_wasValue g_wasNumber g_path m_pathMany g_heavyValue g_heavyTimes m_heavyMany g_fewest g_which g_met m_mostMet, kx_a g_row cyI 160 f]) A) := by
  refine kx_stQ (ws := wsX5_longest) (cc := cX5_longest) (maxL := 10) (ret := (some .int)) (by decide) rfl (Nat.le_of_ble_eq_true rfl) ?_
  intro p e s m below meth c A ls hx hb hr hlocks hts hown hml hA hS hP hK hD hl
  have hown : s.vm.findClass RX5 = some m.cls := hown
  have hl : lv_has ls 10 [(0, .ref h0), (1, .int p0), (2, .int p1), (3, .int p2), (4, .int p3)] := hl
  have hf_77 := hts (.fieldLink RX5 77 "MajorityIndexModel" "thrown" "I") (List.mem_of_getElem? (i := 1) rfl)
  have hi_5 : ∀ w ∈ u_ws RX5 TX5 30, w ∈ wsX5_longest := fun w h => List.mem_cons_of_mem _ (List.mem_append_right _ h)
  have hf_84 := hts (.fieldLink RX5 84 "MajorityIndexModel" "n" "I") (List.mem_of_getElem? (i := 2) rfl)
  have hf_7 := hts (.fieldLink RX5 7 "MajorityIndexModel" "row" "[I") (List.mem_of_getElem? (i := 3) rfl)
  refine lv_aload_n hx hb dX5_longest_0 rfl (lv_at hl 0 rfl) ?_
  refine lv_iconst (v := 0) hx hb dX5_longest_1 (by decide) ?_
  refine va_put (D := (dC, dI)) (ci := 5) (v := .int 0) (ty := .int) (C := RX5) (T := TX5) (N := 30) hx hb hts hi_5 tyX5 tyX5_ok nmX5 hown hK hP hD hS 0 rfl rfl 3 (by decide) hf_77 (fun _ h9 => h9) rfl (by decide +kernel) rfl rfl (Nat.le_of_ble_eq_true rfl) dX5_longest_2 (fun H locs hP hD hS => ?_)
  obtain ⟨hP, hD⟩ := kx_re (w2 := [kx_5 h0 g_row m_n m_slots 0 g_many g_loss g_less g_voteValue g_voteNumber g_allValue g_allNumber m_allMany g_nodeL g_nodeR m_nodes g_part m_partMany g_wasMany g_wasLoss g_wasValue g_wasNumber g_path m_pathMany g_heavyValue g_heavyTimes m_heavyMany g_fewest g_which g_met m_mostMet, kx_a g_row cyI 160 f]) hP hD rfl
  refine lv_iload_n hx hb dX5_longest_5 rfl (lv_at hl 1 rfl) ?_
  have hPc := hP.sub (ws' := []) [] rfl
  have hKc := hK.sub (tys' := []) [] rfl
  refine vp_callSi (W.runS (As := [.int p0]) (rest := []) ⟨hx, hb, hml, hown, hts⟩ (c_X5_isValue l dC dI p0) (va_cwS 1 hts gX5_longest_X5_isValue rfl rfl rfl (by decide +kernel) ⟨Nat.le_of_ble_eq_true rfl, Nat.le_of_ble_eq_true rfl⟩) ⟨fun a U g mk q => by obtain ⟨q0, qP, qK⟩ := q; exact ⟨q0, qP, va_K.moved (u := U) (U := U.calling g mk a) (Vm.Alike.refl U.vm) qK⟩, fun U hU hW => ⟨rfl, by rw [hU]; exact hPc, va_K.moved hW.alike hKc⟩⟩ rfl rfl hl.1 rfl (lv_room (Nat.le_of_ble_eq_true rfl)) dX5_longest_6 ⟨Nat.le_of_ble_eq_true rfl, Nat.le_of_ble_eq_true rfl⟩) (fun r_1 w_1 => ?_)
  rcases w_1 with ⟨rfl, w_1⟩ | ⟨rfl, w_1⟩
  · have w_1 : (-32768 ≤ p0.toInt ∧ p0.toInt ≤ 32767) := w_1
    refine lv_if_eq (tgt := 30) hx hb dX5_longest_9 (by decide) (fun c_2 => ?_) (fun c_2 => ?_)
    · exact absurd c_2 (by decide)
    · refine lv_iload_n hx hb dX5_longest_12 rfl (lv_at hl 2 rfl) ?_
      refine lv_iload_n hx hb dX5_longest_13 rfl (lv_at hl 3 rfl) ?_
      have hPc := hP.sub (ws' := []) [] rfl
      have hKc := hK.sub (tys' := []) [] rfl
      refine vp_callSi (W.runS (As := [.int p1, .int p2]) (rest := []) ⟨hx, hb, hml, hown, hts⟩ (c_X5_isShare l dC dI p1 p2) (va_cwS 2 hts gX5_longest_X5_isShare rfl rfl rfl (by decide +kernel) ⟨Nat.le_of_ble_eq_true rfl, Nat.le_of_ble_eq_true rfl⟩) ⟨fun a U g mk q => by obtain ⟨q0, qP, qK⟩ := q; exact ⟨q0, qP, va_K.moved (u := U) (U := U.calling g mk a) (Vm.Alike.refl U.vm) qK⟩, fun U hU hW => ⟨rfl, by rw [hU]; exact hPc, va_K.moved hW.alike hKc⟩⟩ rfl rfl hl.1 rfl (lv_room (Nat.le_of_ble_eq_true rfl)) dX5_longest_14 ⟨Nat.le_of_ble_eq_true rfl, Nat.le_of_ble_eq_true rfl⟩) (fun r_3 w_3 => ?_)
      rcases w_3 with ⟨rfl, w_3⟩ | ⟨rfl, w_3⟩
      · have w_3 : (1 ≤ p1.toInt ∧ p1.toInt ≤ p2.toInt ∧ p2.toInt ≤ 999) := w_3
        refine lv_if_eq (tgt := 30) hx hb dX5_longest_17 (by decide) (fun c_4 => ?_) (fun c_4 => ?_)
        · exact absurd c_4 (by decide)
        · refine lv_iload hx hb dX5_longest_20 (lv_at hl 4 rfl) ?_
          refine lv_iconst (v := 0) hx hb dX5_longest_22 (by decide) ?_
          refine lv_iconst (v := 1) hx hb dX5_longest_23 (by decide) ?_
          have hPc := hP.sub (ws' := []) [] rfl
          have hKc := hK.sub (tys' := []) [] rfl
          refine vp_callSi (W.runS (As := [.int p3, .int 0, .int 1]) (rest := []) ⟨hx, hb, hml, hown, hts⟩ (c_X5_within l dC dI p3 0 1) (va_cwS 3 hts gX5_longest_X5_within rfl rfl rfl (by decide +kernel) ⟨Nat.le_of_ble_eq_true rfl, Nat.le_of_ble_eq_true rfl⟩) ⟨fun a U g mk q => by obtain ⟨q0, qP, qK⟩ := q; exact ⟨q0, qP, va_K.moved (u := U) (U := U.calling g mk a) (Vm.Alike.refl U.vm) qK⟩, fun U hU hW => ⟨rfl, by rw [hU]; exact hPc, va_K.moved hW.alike hKc⟩⟩ rfl rfl hl.1 rfl (lv_room (Nat.le_of_ble_eq_true rfl)) dX5_longest_24 ⟨Nat.le_of_ble_eq_true rfl, Nat.le_of_ble_eq_true rfl⟩) (fun r_5 w_5 => ?_)
          rcases w_5 with ⟨rfl, w_5⟩ | ⟨rfl, w_5⟩
          · have w_5 : (0 ≤ p3.toInt ∧ p3.toInt ≤ 1) := w_5
            refine lv_if_ne (tgt := 32) hx hb dX5_longest_27 (by decide) (fun c_6 => ?_) (fun c_6 => ?_)
            · refine lv_iconst (v := (-1)) hx hb dX5_longest_32 (by decide) ?_
              refine lv_istore (lv' := [(5, .int (-1)), (0, .ref h0), (1, .int p0), (2, .int p1), (3, .int p2), (4, .int p3)]) hx hb dX5_longest_33 hl (by decide) rfl (fun ls hl => ?_)
              refine lv_iconst (v := (-1)) hx hb dX5_longest_35 (by decide) ?_
              refine lv_istore (lv' := [(6, .int (-1)), (5, .int (-1)), (0, .ref h0), (1, .int p0), (2, .int p1), (3, .int p2), (4, .int p3)]) hx hb dX5_longest_36 hl (by decide) rfl (fun ls hl => ?_)
              refine lv_iconst (v := 0) hx hb dX5_longest_38 (by decide) ?_
              refine lv_istore (lv' := [(7, .int 0), (6, .int (-1)), (5, .int (-1)), (0, .ref h0), (1, .int p0), (2, .int p1), (3, .int p2), (4, .int p3)]) hx hb dX5_longest_39 hl (by decide) rfl (fun ls hl => ?_)
              have LP1 : ∀ (n : Nat) (i : Int32) (bl : Int32) (br : Int32), (0 ≤ i.toInt) → (m_n.toInt - i.toInt).toNat < n → ∀ (H : Heap) (locs : List Loc), va_P (dC, dI) vwCl [kx_5 h0 g_row m_n m_slots 0 g_many g_loss g_less g_voteValue g_voteNumber g_allValue g_allNumber m_allMany g_nodeL g_nodeR m_nodes g_part m_partMany g_wasMany g_wasLoss g_wasValue g_wasNumber g_path m_pathMany g_heavyValue g_heavyTimes m_heavyMany g_fewest g_which g_met m_mostMet, kx_a g_row cyI 160 f] H → va_D A [kx_5 h0 g_row m_n m_slots 0 g_many g_loss g_less g_voteValue g_voteNumber g_allValue g_allNumber m_allMany g_nodeL g_nodeR m_nodes g_part m_partMany g_wasMany g_wasLoss g_wasValue g_wasNumber g_path m_pathMany g_heavyValue g_heavyTimes m_heavyMany g_fewest g_which g_met m_mostMet, kx_a g_row cyI 160 f] → va_S A s.heap H locs → ∀ (ls : Array Slot), lv_has ls 10 [(7, .int i), (6, .int br), (5, .int bl), (0, .ref h0), (1, .int p0), (2, .int p1), (3, .int p2), (4, .int p3)] → W p l e (headSpec wsX5_longest ({ frames := 2, cells := 0, slots := 0, locals := 90 })).room s m ([.ref h0, .int p0, .int p1, .int p2, .int p3] : List Value).toArray below meth c H locs 0 0 (MQ below (va_Qi (fun (r : Int32) (_ : Unit) => True) (fun (_ : Unit) (t : State) => va_P (dC, dI) vwCl [kx_5 h0 g_row m_n m_slots 0 g_many g_loss g_less g_voteValue g_voteNumber g_allValue g_allNumber m_allMany g_nodeL g_nodeR m_nodes g_part m_partMany g_wasMany g_wasLoss g_wasValue g_wasNumber g_path m_pathMany g_heavyValue g_heavyTimes m_heavyMany g_fewest g_which g_met m_mostMet, kx_a g_row cyI 160 f] t.heap ∧ va_K (dC, dI) vwCl [(cyI, .int)] t ∧ va_D A [kx_5 h0 g_row m_n m_slots 0 g_many g_loss g_less g_voteValue g_voteNumber g_allValue g_allNumber m_allMany g_nodeL g_nodeR m_nodes g_part m_partMany g_wasMany g_wasLoss g_wasValue g_wasNumber g_path m_pathMany g_heavyValue g_heavyTimes m_heavyMany g_fewest g_which g_met m_mostMet, kx_a g_row cyI 160 f]) A) ([.ref h0, .int p0, .int p1, .int p2, .int p3] : List Value).toArray s 0 0 A) (F0 m 41 ls []) := by
                intro n
                induction n with
                | zero => intro i bl br LP1_h0 hn; exact absurd hn (Nat.not_lt_zero _)
                | succ n ih1 =>
                  intro i bl br LP1_h0 hn1 H locs hP hD hS ls hl
                  refine lv_iload hx hb dX5_longest_41 (lv_at hl 0 rfl) ?_
                  refine lv_aload_n hx hb dX5_longest_43 rfl (lv_at hl 3 rfl) ?_
                  refine va_get (D := (dC, dI)) (ci := 5) (v := .int m_n) (C := RX5) (T := TX5) (N := 30) hx hb hts hi_5 hown hK hP 0 rfl rfl 1 (by decide) hf_84 (fun _ h9 => h9) rfl dX5_longest_44 ?_
                  refine lv_icmp_ge (tgt := 139) hx hb dX5_longest_47 (by decide) (fun c_7 => ?_) (fun c_7 => ?_)
                  · have i_7 : m_n.toInt ≤ i.toInt := kc_le c_7
                    refine lv_iload hx hb dX5_longest_139 (lv_at hl 7 rfl) ?_
                    refine lv_if_ne (tgt := 149) hx hb dX5_longest_141 (by decide) (fun c_8 => ?_) (fun c_8 => ?_)
                    · have i_8 : ¬ p3.toInt = 0 := kc_ne c_8
                      refine lv_iload hx hb dX5_longest_149 (lv_at hl 1 rfl) ?_
                      have hP9 := hP
                      have hD9 := hD
                      have hK9 := hK
                      exact W.iret (v := br) hx hb hr (hlocks := hlocks) (fun t ht hW => ⟨⟨br, (), rfl, trivial, by rw [ht]; exact hP9, va_K.moved hW.alike hK9, hD9⟩, hS.F ht⟩) hS.2.2 dX5_longest_151
                    · have i_8 : p3.toInt = 0 := kc_eq c_8
                      refine lv_iload hx hb dX5_longest_144 (lv_at hl 2 rfl) ?_
                      refine lv_goto (tgt := 151) hx hb dX5_longest_146 (by decide) ?_
                      have hP9 := hP
                      have hD9 := hD
                      have hK9 := hK
                      exact W.iret (v := bl) hx hb hr (hlocks := hlocks) (fun t ht hW => ⟨⟨bl, (), rfl, trivial, by rw [ht]; exact hP9, va_K.moved hW.alike hK9, hD9⟩, hS.F ht⟩) hS.2.2 dX5_longest_151
                  · have i_7 : i.toInt < m_n.toInt := kc_nle c_7
                    refine lv_iconst (v := 0) hx hb dX5_longest_50 (by decide) ?_
                    refine lv_istore (lv' := [(8, .int 0), (7, .int i), (6, .int br), (5, .int bl), (0, .ref h0), (1, .int p0), (2, .int p1), (3, .int p2), (4, .int p3)]) hx hb dX5_longest_51 hl (by decide) rfl (fun ls hl => ?_)
                    refine lv_iload hx hb dX5_longest_53 (lv_at hl 1 rfl) ?_
                    refine lv_iconst (v := 1) hx hb dX5_longest_55 (by decide) ?_
                    refine lv_iadd hx hb dX5_longest_56 ?_
                    refine lv_topi (fun y_9 ey_9 => ?_)
                    have i_9 : y_9.toInt = i.toInt + 1 := ki_add ey_9 rfl rfl (om_13 LP1_h0) (om_3 a1 i_7)
                    refine lv_istore (lv' := [(9, .int y_9), (8, .int 0), (7, .int i), (6, .int br), (5, .int bl), (0, .ref h0), (1, .int p0), (2, .int p1), (3, .int p2), (4, .int p3)]) hx hb dX5_longest_57 hl (by decide) rfl (fun ls hl => ?_)
                    have LP2 : ∀ (n : Nat) (j : Int32) (of : Int32) (bl2 : Int32) (br2 : Int32), (1 ≤ j.toInt) → (m_n.toInt + 1 - j.toInt).toNat < n → ∀ (H : Heap) (locs : List Loc), va_P (dC, dI) vwCl [kx_5 h0 g_row m_n m_slots 0 g_many g_loss g_less g_voteValue g_voteNumber g_allValue g_allNumber m_allMany g_nodeL g_nodeR m_nodes g_part m_partMany g_wasMany g_wasLoss g_wasValue g_wasNumber g_path m_pathMany g_heavyValue g_heavyTimes m_heavyMany g_fewest g_which g_met m_mostMet, kx_a g_row cyI 160 f] H → va_D A [kx_5 h0 g_row m_n m_slots 0 g_many g_loss g_less g_voteValue g_voteNumber g_allValue g_allNumber m_allMany g_nodeL g_nodeR m_nodes g_part m_partMany g_wasMany g_wasLoss g_wasValue g_wasNumber g_path m_pathMany g_heavyValue g_heavyTimes m_heavyMany g_fewest g_which g_met m_mostMet, kx_a g_row cyI 160 f] → va_S A s.heap H locs → ∀ (ls : Array Slot), lv_has ls 10 [(9, .int j), (8, .int of), (7, .int i), (6, .int br2), (5, .int bl2), (0, .ref h0), (1, .int p0), (2, .int p1), (3, .int p2), (4, .int p3)] → W p l e (headSpec wsX5_longest ({ frames := 2, cells := 0, slots := 0, locals := 90 })).room s m ([.ref h0, .int p0, .int p1, .int p2, .int p3] : List Value).toArray below meth c H locs 0 0 (MQ below (va_Qi (fun (r : Int32) (_ : Unit) => True) (fun (_ : Unit) (t : State) => va_P (dC, dI) vwCl [kx_5 h0 g_row m_n m_slots 0 g_many g_loss g_less g_voteValue g_voteNumber g_allValue g_allNumber m_allMany g_nodeL g_nodeR m_nodes g_part m_partMany g_wasMany g_wasLoss g_wasValue g_wasNumber g_path m_pathMany g_heavyValue g_heavyTimes m_heavyMany g_fewest g_which g_met m_mostMet, kx_a g_row cyI 160 f] t.heap ∧ va_K (dC, dI) vwCl [(cyI, .int)] t ∧ va_D A [kx_5 h0 g_row m_n m_slots 0 g_many g_loss g_less g_voteValue g_voteNumber g_allValue g_allNumber m_allMany g_nodeL g_nodeR m_nodes g_part m_partMany g_wasMany g_wasLoss g_wasValue g_wasNumber g_path m_pathMany g_heavyValue g_heavyTimes m_heavyMany g_fewest g_which g_met m_mostMet, kx_a g_row cyI 160 f]) A) ([.ref h0, .int p0, .int p1, .int p2, .int p3] : List Value).toArray s 0 0 A) (F0 m 59 ls []) := by
                      intro n
                      induction n with
                      | zero => intro j of bl2 br2 LP2_h0 hn; exact absurd hn (Nat.not_lt_zero _)
                      | succ n ih2 =>
                        intro j of bl2 br2 LP2_h0 hn2 H locs hP hD hS ls hl
                        refine lv_iload hx hb dX5_longest_59 (lv_at hl 0 rfl) ?_
                        refine lv_aload_n hx hb dX5_longest_61 rfl (lv_at hl 5 rfl) ?_
                        refine va_get (D := (dC, dI)) (ci := 5) (v := .int m_n) (C := RX5) (T := TX5) (N := 30) hx hb hts hi_5 hown hK hP 0 rfl rfl 1 (by decide) hf_84 (fun _ h9 => h9) rfl dX5_longest_62 ?_
                        refine lv_icmp_gt (tgt := 133) hx hb dX5_longest_65 (by decide) (fun c_10 => ?_) (fun c_10 => ?_)
                        · have i_10 : m_n.toInt < j.toInt := kc_lt c_10
                          obtain ⟨x_11, ex_11⟩ : ∃ y : Int32, y = i + 1 := ⟨_, rfl⟩
                          have i_11 : x_11.toInt = i.toInt + 1 := ki_add ex_11 rfl rfl (om_13 LP1_h0) (om_3 a1 i_7)
                          refine lv_iinc (v := x_11) (lv' := [(7, .int x_11), (9, .int j), (8, .int of), (6, .int br2), (5, .int bl2), (0, .ref h0), (1, .int p0), (2, .int p1), (3, .int p2), (4, .int p3)]) hx hb dX5_longest_133 hl (k := 2) rfl (by rw [ex_11]; rfl) (by decide) rfl (fun ls hl => ?_)
                          refine lv_goto (tgt := 41) hx hb dX5_longest_136 (by decide) ?_
                          exact ih1 x_11 bl2 br2 (om_34 LP1_h0 i_11) (om_mu hn1 (om_5 i_11) (om_6 i_7)) _ _ hP hD hS ls (lv_sub hl [0, 3, 4, 5, 6, 7, 8, 9] rfl)
                        · have i_10 : j.toInt ≤ m_n.toInt := kc_nlt c_10
                          refine lv_aload_n hx hb dX5_longest_68 rfl (lv_at hl 5 rfl) ?_
                          refine va_get (D := (dC, dI)) (ci := 5) (v := .ref g_row) (C := RX5) (T := TX5) (N := 30) hx hb hts hi_5 hown hK hP 0 rfl rfl 0 (by decide) hf_7 (fun _ h9 => h9) rfl dX5_longest_69 ?_
                          refine lv_iload hx hb dX5_longest_72 (lv_at hl 0 rfl) ?_
                          refine lv_iconst (v := 1) hx hb dX5_longest_74 (by decide) ?_
                          refine lv_isub hx hb dX5_longest_75 ?_
                          refine lv_topi (fun y_12 ey_12 => ?_)
                          have i_12 : y_12.toInt = j.toInt - 1 := ki_sub ey_12 rfl rfl (om_182 LP2_h0) (om_183 a1 i_10)
                          refine va_iald hx hb hK hP 1 0 rfl rfl (ki_in (om_237 LP2_h0 i_12) (om_232 a1 i_10 i_12)) dX5_longest_76 ?_
                          refine lv_topi (fun y_13 ey_13 => ?_)
                          have j_13 : y_13.toInt = (f y_12.toNatClampNeg).toInt := congrArg Int32.toInt ey_13
                          refine lv_iload_n hx hb dX5_longest_77 rfl (lv_at hl 6 rfl) ?_
                          refine lv_icmp_ne (tgt := 84) hx hb dX5_longest_78 (by decide) (fun c_14 => ?_) (fun c_14 => ?_)
                          · have i_14 : ¬ y_13.toInt = p0.toInt := kc_ne c_14
                            refine lv_iload hx hb dX5_longest_84 (lv_at hl 1 rfl) ?_
                            refine lv_iload_n hx hb dX5_longest_86 rfl (lv_at hl 8 rfl) ?_
                            refine lv_imul hx hb dX5_longest_87 ?_
                            refine lv_topi (fun y_15 ey_15 => ?_)
                            refine lv_iload_n hx hb dX5_longest_88 rfl (lv_at hl 7 rfl) ?_
                            refine lv_iload hx hb dX5_longest_89 (lv_at hl 0 rfl) ?_
                            refine lv_iload hx hb dX5_longest_91 (lv_at hl 2 rfl) ?_
                            refine lv_isub hx hb dX5_longest_93 ?_
                            refine lv_topi (fun y_16 ey_16 => ?_)
                            refine lv_imul hx hb dX5_longest_94 ?_
                            refine lv_topi (fun y_17 ey_17 => ?_)
                            refine lv_icmp_le (tgt := 127) hx hb dX5_longest_95 (by decide) (fun c_18 => ?_) (fun c_18 => ?_)
                            · have i_18 : y_15.toInt ≤ y_17.toInt := kc_le c_18
                              obtain ⟨x_19, ex_19⟩ : ∃ y : Int32, y = j + 1 := ⟨_, rfl⟩
                              have i_19 : x_19.toInt = j.toInt + 1 := ki_add ex_19 rfl rfl (om_40 LP2_h0) (om_238 a1 i_10)
                              refine lv_iinc (v := x_19) (lv' := [(9, .int x_19), (8, .int of), (7, .int i), (6, .int br2), (5, .int bl2), (0, .ref h0), (1, .int p0), (2, .int p1), (3, .int p2), (4, .int p3)]) hx hb dX5_longest_127 hl (k := 0) rfl (by rw [ex_19]; rfl) (by decide) rfl (fun ls hl => ?_)
                              refine lv_goto (tgt := 59) hx hb dX5_longest_130 (by decide) ?_
                              exact ih2 x_19 of bl2 br2 (om_41 LP2_h0 i_19) (om_mu hn2 (om_239 i_19) (om_240 i_10)) _ _ hP hD hS ls (lv_sub hl [0, 1, 2, 3, 4, 5, 6, 7, 8, 9] rfl)
                            · have i_18 : y_17.toInt < y_15.toInt := kc_nle c_18
                              refine lv_iload hx hb dX5_longest_98 (lv_at hl 4 rfl) ?_
                              refine lv_if_lt (tgt := 119) hx hb dX5_longest_100 (by decide) (fun c_20 => ?_) (fun c_20 => ?_)
                              · have i_20 : bl2.toInt < 0 := kc_lt c_20
                                refine lv_iload hx hb dX5_longest_119 (lv_at hl 2 rfl) ?_
                                refine lv_istore (lv' := [(5, .int i), (9, .int j), (8, .int of), (7, .int i), (6, .int br2), (0, .ref h0), (1, .int p0), (2, .int p1), (3, .int p2), (4, .int p3)]) hx hb dX5_longest_121 hl (by decide) rfl (fun ls hl => ?_)
                                refine lv_iload hx hb dX5_longest_123 (lv_at hl 1 rfl) ?_
                                refine lv_istore (lv' := [(6, .int j), (5, .int i), (9, .int j), (8, .int of), (7, .int i), (0, .ref h0), (1, .int p0), (2, .int p1), (3, .int p2), (4, .int p3)]) hx hb dX5_longest_125 hl (by decide) rfl (fun ls hl => ?_)
                                obtain ⟨x_21, ex_21⟩ : ∃ y : Int32, y = j + 1 := ⟨_, rfl⟩
                                have i_21 : x_21.toInt = j.toInt + 1 := ki_add ex_21 rfl rfl (om_40 LP2_h0) (om_238 a1 i_10)
                                refine lv_iinc (v := x_21) (lv' := [(9, .int x_21), (6, .int j), (5, .int i), (8, .int of), (7, .int i), (0, .ref h0), (1, .int p0), (2, .int p1), (3, .int p2), (4, .int p3)]) hx hb dX5_longest_127 hl (k := 2) rfl (by rw [ex_21]; rfl) (by decide) rfl (fun ls hl => ?_)
                                refine lv_goto (tgt := 59) hx hb dX5_longest_130 (by decide) ?_
                                exact ih2 x_21 of i j (om_41 LP2_h0 i_21) (om_mu hn2 (om_239 i_21) (om_240 i_10)) _ _ hP hD hS ls (lv_sub hl [0, 3, 4, 1, 2, 5, 6, 7, 8, 9] rfl)
                              · have i_20 : 0 ≤ bl2.toInt := kc_nlt c_20
                                refine lv_iload hx hb dX5_longest_103 (lv_at hl 0 rfl) ?_
                                refine lv_iload hx hb dX5_longest_105 (lv_at hl 2 rfl) ?_
                                refine lv_isub hx hb dX5_longest_107 ?_
                                refine lv_topi (fun y_22 ey_22 => ?_)
                                refine lv_iload hx hb dX5_longest_108 (lv_at hl 3 rfl) ?_
                                refine lv_iload hx hb dX5_longest_110 (lv_at hl 4 rfl) ?_
                                refine lv_isub hx hb dX5_longest_112 ?_
                                refine lv_topi (fun y_23 ey_23 => ?_)
                                refine lv_icmp_gt (tgt := 119) hx hb dX5_longest_113 (by decide) (fun c_24 => ?_) (fun c_24 => ?_)
                                · have i_24 : y_23.toInt < y_22.toInt := kc_lt c_24
                                  refine lv_iload hx hb dX5_longest_119 (lv_at hl 2 rfl) ?_
                                  refine lv_istore (lv' := [(5, .int i), (9, .int j), (8, .int of), (7, .int i), (6, .int br2), (0, .ref h0), (1, .int p0), (2, .int p1), (3, .int p2), (4, .int p3)]) hx hb dX5_longest_121 hl (by decide) rfl (fun ls hl => ?_)
                                  refine lv_iload hx hb dX5_longest_123 (lv_at hl 1 rfl) ?_
                                  refine lv_istore (lv' := [(6, .int j), (5, .int i), (9, .int j), (8, .int of), (7, .int i), (0, .ref h0), (1, .int p0), (2, .int p1), (3, .int p2), (4, .int p3)]) hx hb dX5_longest_125 hl (by decide) rfl (fun ls hl => ?_)
                                  obtain ⟨x_25, ex_25⟩ : ∃ y : Int32, y = j + 1 := ⟨_, rfl⟩
                                  have i_25 : x_25.toInt = j.toInt + 1 := ki_add ex_25 rfl rfl (om_40 LP2_h0) (om_238 a1 i_10)
                                  refine lv_iinc (v := x_25) (lv' := [(9, .int x_25), (6, .int j), (5, .int i), (8, .int of), (7, .int i), (0, .ref h0), (1, .int p0), (2, .int p1), (3, .int p2), (4, .int p3)]) hx hb dX5_longest_127 hl (k := 2) rfl (by rw [ex_25]; rfl) (by decide) rfl (fun ls hl => ?_)
                                  refine lv_goto (tgt := 59) hx hb dX5_longest_130 (by decide) ?_
                                  exact ih2 x_25 of i j (om_41 LP2_h0 i_25) (om_mu hn2 (om_239 i_25) (om_240 i_10)) _ _ hP hD hS ls (lv_sub hl [0, 3, 4, 1, 2, 5, 6, 7, 8, 9] rfl)
                                · have i_24 : y_22.toInt ≤ y_23.toInt := kc_nlt c_24
                                  refine lv_goto (tgt := 127) hx hb dX5_longest_116 (by decide) ?_
                                  obtain ⟨x_26, ex_26⟩ : ∃ y : Int32, y = j + 1 := ⟨_, rfl⟩
                                  have i_26 : x_26.toInt = j.toInt + 1 := ki_add ex_26 rfl rfl (om_40 LP2_h0) (om_238 a1 i_10)
                                  refine lv_iinc (v := x_26) (lv' := [(9, .int x_26), (8, .int of), (7, .int i), (6, .int br2), (5, .int bl2), (0, .ref h0), (1, .int p0), (2, .int p1), (3, .int p2), (4, .int p3)]) hx hb dX5_longest_127 hl (k := 0) rfl (by rw [ex_26]; rfl) (by decide) rfl (fun ls hl => ?_)
                                  refine lv_goto (tgt := 59) hx hb dX5_longest_130 (by decide) ?_
                                  exact ih2 x_26 of bl2 br2 (om_41 LP2_h0 i_26) (om_mu hn2 (om_239 i_26) (om_240 i_10)) _ _ hP hD hS ls (lv_sub hl [0, 1, 2, 3, 4, 5, 6, 7, 8, 9] rfl)
                          · have i_14 : y_13.toInt = p0.toInt := kc_eq c_14
                            obtain ⟨x_27, ex_27⟩ : ∃ y : Int32, y = of + 1 := ⟨_, rfl⟩
                            refine lv_iinc (v := x_27) (lv' := [(8, .int x_27), (9, .int j), (7, .int i), (6, .int br2), (5, .int bl2), (0, .ref h0), (1, .int p0), (2, .int p1), (3, .int p2), (4, .int p3)]) hx hb dX5_longest_81 hl (k := 1) rfl (by rw [ex_27]; rfl) (by decide) rfl (fun ls hl => ?_)
                            refine lv_iload hx hb dX5_longest_84 (lv_at hl 0 rfl) ?_
                            refine lv_iload_n hx hb dX5_longest_86 rfl (lv_at hl 8 rfl) ?_
                            refine lv_imul hx hb dX5_longest_87 ?_
                            refine lv_topi (fun y_28 ey_28 => ?_)
                            refine lv_iload_n hx hb dX5_longest_88 rfl (lv_at hl 7 rfl) ?_
                            refine lv_iload hx hb dX5_longest_89 (lv_at hl 1 rfl) ?_
                            refine lv_iload hx hb dX5_longest_91 (lv_at hl 2 rfl) ?_
                            refine lv_isub hx hb dX5_longest_93 ?_
                            refine lv_topi (fun y_29 ey_29 => ?_)
                            refine lv_imul hx hb dX5_longest_94 ?_
                            refine lv_topi (fun y_30 ey_30 => ?_)
                            refine lv_icmp_le (tgt := 127) hx hb dX5_longest_95 (by decide) (fun c_31 => ?_) (fun c_31 => ?_)
                            · have i_31 : y_28.toInt ≤ y_30.toInt := kc_le c_31
                              obtain ⟨x_32, ex_32⟩ : ∃ y : Int32, y = j + 1 := ⟨_, rfl⟩
                              have i_32 : x_32.toInt = j.toInt + 1 := ki_add ex_32 rfl rfl (om_40 LP2_h0) (om_238 a1 i_10)
                              refine lv_iinc (v := x_32) (lv' := [(9, .int x_32), (8, .int x_27), (7, .int i), (6, .int br2), (5, .int bl2), (0, .ref h0), (1, .int p0), (2, .int p1), (3, .int p2), (4, .int p3)]) hx hb dX5_longest_127 hl (k := 1) rfl (by rw [ex_32]; rfl) (by decide) rfl (fun ls hl => ?_)
                              refine lv_goto (tgt := 59) hx hb dX5_longest_130 (by decide) ?_
                              exact ih2 x_32 x_27 bl2 br2 (om_41 LP2_h0 i_32) (om_mu hn2 (om_239 i_32) (om_240 i_10)) _ _ hP hD hS ls (lv_sub hl [0, 1, 2, 3, 4, 5, 6, 7, 8, 9] rfl)
                            · have i_31 : y_30.toInt < y_28.toInt := kc_nle c_31
                              refine lv_iload hx hb dX5_longest_98 (lv_at hl 4 rfl) ?_
                              refine lv_if_lt (tgt := 119) hx hb dX5_longest_100 (by decide) (fun c_33 => ?_) (fun c_33 => ?_)
                              · have i_33 : bl2.toInt < 0 := kc_lt c_33
                                refine lv_iload hx hb dX5_longest_119 (lv_at hl 2 rfl) ?_
                                refine lv_istore (lv' := [(5, .int i), (8, .int x_27), (9, .int j), (7, .int i), (6, .int br2), (0, .ref h0), (1, .int p0), (2, .int p1), (3, .int p2), (4, .int p3)]) hx hb dX5_longest_121 hl (by decide) rfl (fun ls hl => ?_)
                                refine lv_iload hx hb dX5_longest_123 (lv_at hl 2 rfl) ?_
                                refine lv_istore (lv' := [(6, .int j), (5, .int i), (8, .int x_27), (9, .int j), (7, .int i), (0, .ref h0), (1, .int p0), (2, .int p1), (3, .int p2), (4, .int p3)]) hx hb dX5_longest_125 hl (by decide) rfl (fun ls hl => ?_)
                                obtain ⟨x_34, ex_34⟩ : ∃ y : Int32, y = j + 1 := ⟨_, rfl⟩
                                have i_34 : x_34.toInt = j.toInt + 1 := ki_add ex_34 rfl rfl (om_40 LP2_h0) (om_238 a1 i_10)
                                refine lv_iinc (v := x_34) (lv' := [(9, .int x_34), (6, .int j), (5, .int i), (8, .int x_27), (7, .int i), (0, .ref h0), (1, .int p0), (2, .int p1), (3, .int p2), (4, .int p3)]) hx hb dX5_longest_127 hl (k := 3) rfl (by rw [ex_34]; rfl) (by decide) rfl (fun ls hl => ?_)
                                refine lv_goto (tgt := 59) hx hb dX5_longest_130 (by decide) ?_
                                exact ih2 x_34 x_27 i j (om_41 LP2_h0 i_34) (om_mu hn2 (om_239 i_34) (om_240 i_10)) _ _ hP hD hS ls (lv_sub hl [0, 3, 4, 1, 2, 5, 6, 7, 8, 9] rfl)
                              · have i_33 : 0 ≤ bl2.toInt := kc_nlt c_33
                                refine lv_iload hx hb dX5_longest_103 (lv_at hl 1 rfl) ?_
                                refine lv_iload hx hb dX5_longest_105 (lv_at hl 2 rfl) ?_
                                refine lv_isub hx hb dX5_longest_107 ?_
                                refine lv_topi (fun y_35 ey_35 => ?_)
                                refine lv_iload hx hb dX5_longest_108 (lv_at hl 3 rfl) ?_
                                refine lv_iload hx hb dX5_longest_110 (lv_at hl 4 rfl) ?_
                                refine lv_isub hx hb dX5_longest_112 ?_
                                refine lv_topi (fun y_36 ey_36 => ?_)
                                refine lv_icmp_gt (tgt := 119) hx hb dX5_longest_113 (by decide) (fun c_37 => ?_) (fun c_37 => ?_)
                                · have i_37 : y_36.toInt < y_35.toInt := kc_lt c_37
                                  refine lv_iload hx hb dX5_longest_119 (lv_at hl 2 rfl) ?_
                                  refine lv_istore (lv' := [(5, .int i), (8, .int x_27), (9, .int j), (7, .int i), (6, .int br2), (0, .ref h0), (1, .int p0), (2, .int p1), (3, .int p2), (4, .int p3)]) hx hb dX5_longest_121 hl (by decide) rfl (fun ls hl => ?_)
                                  refine lv_iload hx hb dX5_longest_123 (lv_at hl 2 rfl) ?_
                                  refine lv_istore (lv' := [(6, .int j), (5, .int i), (8, .int x_27), (9, .int j), (7, .int i), (0, .ref h0), (1, .int p0), (2, .int p1), (3, .int p2), (4, .int p3)]) hx hb dX5_longest_125 hl (by decide) rfl (fun ls hl => ?_)
                                  obtain ⟨x_38, ex_38⟩ : ∃ y : Int32, y = j + 1 := ⟨_, rfl⟩
                                  have i_38 : x_38.toInt = j.toInt + 1 := ki_add ex_38 rfl rfl (om_40 LP2_h0) (om_238 a1 i_10)
                                  refine lv_iinc (v := x_38) (lv' := [(9, .int x_38), (6, .int j), (5, .int i), (8, .int x_27), (7, .int i), (0, .ref h0), (1, .int p0), (2, .int p1), (3, .int p2), (4, .int p3)]) hx hb dX5_longest_127 hl (k := 3) rfl (by rw [ex_38]; rfl) (by decide) rfl (fun ls hl => ?_)
                                  refine lv_goto (tgt := 59) hx hb dX5_longest_130 (by decide) ?_
                                  exact ih2 x_38 x_27 i j (om_41 LP2_h0 i_38) (om_mu hn2 (om_239 i_38) (om_240 i_10)) _ _ hP hD hS ls (lv_sub hl [0, 3, 4, 1, 2, 5, 6, 7, 8, 9] rfl)
                                · have i_37 : y_35.toInt ≤ y_36.toInt := kc_nlt c_37
                                  refine lv_goto (tgt := 127) hx hb dX5_longest_116 (by decide) ?_
                                  obtain ⟨x_39, ex_39⟩ : ∃ y : Int32, y = j + 1 := ⟨_, rfl⟩
                                  have i_39 : x_39.toInt = j.toInt + 1 := ki_add ex_39 rfl rfl (om_40 LP2_h0) (om_238 a1 i_10)
                                  refine lv_iinc (v := x_39) (lv' := [(9, .int x_39), (8, .int x_27), (7, .int i), (6, .int br2), (5, .int bl2), (0, .ref h0), (1, .int p0), (2, .int p1), (3, .int p2), (4, .int p3)]) hx hb dX5_longest_127 hl (k := 1) rfl (by rw [ex_39]; rfl) (by decide) rfl (fun ls hl => ?_)
                                  refine lv_goto (tgt := 59) hx hb dX5_longest_130 (by decide) ?_
                                  exact ih2 x_39 x_27 bl2 br2 (om_41 LP2_h0 i_39) (om_mu hn2 (om_239 i_39) (om_240 i_10)) _ _ hP hD hS ls (lv_sub hl [0, 1, 2, 3, 4, 5, 6, 7, 8, 9] rfl)
                    have k_40 : (0 : Int32).toInt = 0 := rfl
                    exact LP2 ((m_n.toInt + 1 - y_9.toInt : Int).toNat + 1) y_9 0 bl br (om_241 LP1_h0 i_9) (Nat.lt_succ_self _) _ _ hP hD hS ls (lv_sub hl [0, 1, 2, 3, 4, 5, 6, 7, 8, 9] rfl)
              have k_41 : (0 : Int32).toInt = 0 := rfl
              have k_42 : ((-1) : Int32).toInt = -1 := rfl
              have k_43 : ((-1) : Int32).toInt = -1 := rfl
              exact LP1 ((m_n.toInt - 0 : Int).toNat + 1) 0 (-1) (-1) om_35 (Nat.lt_succ_self _) _ _ hP hD hS ls (lv_sub hl [0, 1, 2, 3, 4, 5, 6, 7] rfl)
            · exact absurd c_6 (by decide)
          · have w_5 : (p3.toInt < 0 ∨ 1 < p3.toInt) := w_5
            refine lv_if_ne (tgt := 32) hx hb dX5_longest_27 (by decide) (fun c_44 => ?_) (fun c_44 => ?_)
            · exact absurd c_44 (by decide)
            · refine lv_iconst (v := (-1)) hx hb dX5_longest_30 (by decide) ?_
              have hP9 := hP
              have hD9 := hD
              have hK9 := hK
              exact W.iret (v := (-1)) hx hb hr (hlocks := hlocks) (fun t ht hW => ⟨⟨(-1), (), rfl, trivial, by rw [ht]; exact hP9, va_K.moved hW.alike hK9, hD9⟩, hS.F ht⟩) hS.2.2 dX5_longest_31
      · have w_3 : (p1.toInt < 1 ∨ p2.toInt < p1.toInt ∨ 999 < p2.toInt) := w_3
        refine lv_if_eq (tgt := 30) hx hb dX5_longest_17 (by decide) (fun c_45 => ?_) (fun c_45 => ?_)
        · refine lv_iconst (v := (-1)) hx hb dX5_longest_30 (by decide) ?_
          have hP9 := hP
          have hD9 := hD
          have hK9 := hK
          exact W.iret (v := (-1)) hx hb hr (hlocks := hlocks) (fun t ht hW => ⟨⟨(-1), (), rfl, trivial, by rw [ht]; exact hP9, va_K.moved hW.alike hK9, hD9⟩, hS.F ht⟩) hS.2.2 dX5_longest_31
        · exact absurd c_45 (by decide)
  · have w_1 : (p0.toInt < -32768 ∨ 32767 < p0.toInt) := w_1
    refine lv_if_eq (tgt := 30) hx hb dX5_longest_9 (by decide) (fun c_46 => ?_) (fun c_46 => ?_)
    · refine lv_iconst (v := (-1)) hx hb dX5_longest_30 (by decide) ?_
      have hP9 := hP
      have hD9 := hD
      have hK9 := hK
      exact W.iret (v := (-1)) hx hb hr (hlocks := hlocks) (fun t ht hW => ⟨⟨(-1), (), rfl, trivial, by rw [ht]; exact hP9, va_K.moved hW.alike hK9, hD9⟩, hS.F ht⟩) hS.2.2 dX5_longest_31
    · exact absurd c_46 (by decide)

set_option maxHeartbeats 4000000 in
set_option maxRecDepth 100000 in
theorem c_X5_cut (l : Launch) (dC : Nat → ClassId) (dI : Nat → Nat → Nat) (h0 : Nat) (g_row : Nat) (g_many : Nat) (g_loss : Nat) (g_less : Nat) (g_voteValue : Nat) (g_voteNumber : Nat) (g_allValue : Nat) (g_allNumber : Nat) (g_nodeL : Nat) (g_nodeR : Nat) (g_part : Nat) (g_wasMany : Nat) (g_wasLoss : Nat) (g_wasValue : Nat) (g_wasNumber : Nat) (g_path : Nat) (g_heavyValue : Nat) (g_heavyTimes : Nat) (g_fewest : Nat) (g_which : Nat) (g_met : Nat) (m_n : Int32) (m_slots : Int32) (m_thrown : Int32) (m_allMany : Int32) (m_nodes : Int32) (m_partMany : Int32) (m_pathMany : Int32) (m_heavyMany : Int32) (m_mostMet : Int32) (cyI : ClassId) (f : Nat → Int32) (p0 : Int32) (p1 : Int32) (sz : Nat) (a0 : 0 ≤ m_n.toInt) (a1 : m_n.toInt ≤ 160) : kx_MQ l (dC, dI) yX5_cut wsX5_cut ({ frames := 2, cells := 0, slots := 0, locals := 90 }) [.ref h0, .int p0, .int p1] [kx_5 h0 g_row m_n m_slots m_thrown g_many g_loss g_less g_voteValue g_voteNumber g_allValue g_allNumber m_allMany g_nodeL g_nodeR m_nodes g_part m_partMany g_wasMany g_wasLoss g_wasValue g_wasNumber g_path m_pathMany g_heavyValue g_heavyTimes m_heavyMany g_fewest g_which g_met m_mostMet, kx_a g_row cyI 160 f] [(cyI, .int)] sz (fun A => va_Qi (fun (r : Int32) (_ : Unit) => True) (fun (_ : Unit) (t : State) => va_P (dC, dI) vwCl [kx_5 h0 g_row m_n m_slots 0 g_many g_loss g_less g_voteValue g_voteNumber g_allValue g_allNumber m_allMany g_nodeL g_nodeR m_nodes g_part m_partMany g_wasMany g_wasLoss g_wasValue g_wasNumber g_path m_pathMany g_heavyValue g_heavyTimes m_heavyMany g_fewest g_which g_met m_mostMet, kx_a g_row cyI 160 f] t.heap ∧ va_K (dC, dI) vwCl [(cyI, .int)] t ∧ va_D A [kx_5 h0 g_row m_n m_slots 0 g_many g_loss g_less g_voteValue g_voteNumber g_allValue g_allNumber m_allMany g_nodeL g_nodeR m_nodes g_part m_partMany g_wasMany g_wasLoss g_wasValue g_wasNumber g_path m_pathMany g_heavyValue g_heavyTimes m_heavyMany g_fewest g_which g_met m_mostMet, kx_a g_row cyI 160 f]) A) := by
  refine kx_stQ (ws := wsX5_cut) (cc := cX5_cut) (maxL := 6) (ret := (some .int)) (by decide) rfl (Nat.le_of_ble_eq_true rfl) ?_
  intro p e s m below meth c A ls hx hb hr hlocks hts hown hml hA hS hP hK hD hl
  have hown : s.vm.findClass RX5 = some m.cls := hown
  have hl : lv_has ls 6 [(0, .ref h0), (1, .int p0), (2, .int p1)] := hl
  have hf_77 := hts (.fieldLink RX5 77 "MajorityIndexModel" "thrown" "I") (List.mem_of_getElem? (i := 1) rfl)
  have hi_5 : ∀ w ∈ u_ws RX5 TX5 30, w ∈ wsX5_cut := fun w h => List.mem_cons_of_mem _ (List.mem_append_right _ h)
  have hk_148 := hts (.constant RX5 148 (-40000)) (List.mem_of_getElem? (i := 2) rfl)
  refine lv_aload_n hx hb dX5_cut_0 rfl (lv_at hl 0 rfl) ?_
  refine lv_iconst (v := 0) hx hb dX5_cut_1 (by decide) ?_
  refine va_put (D := (dC, dI)) (ci := 5) (v := .int 0) (ty := .int) (C := RX5) (T := TX5) (N := 30) hx hb hts hi_5 tyX5 tyX5_ok nmX5 hown hK hP hD hS 0 rfl rfl 3 (by decide) hf_77 (fun _ h9 => h9) rfl (by decide +kernel) rfl rfl (Nat.le_of_ble_eq_true rfl) dX5_cut_2 (fun H locs hP hD hS => ?_)
  obtain ⟨hP, hD⟩ := kx_re (w2 := [kx_5 h0 g_row m_n m_slots 0 g_many g_loss g_less g_voteValue g_voteNumber g_allValue g_allNumber m_allMany g_nodeL g_nodeR m_nodes g_part m_partMany g_wasMany g_wasLoss g_wasValue g_wasNumber g_path m_pathMany g_heavyValue g_heavyTimes m_heavyMany g_fewest g_which g_met m_mostMet, kx_a g_row cyI 160 f]) hP hD rfl
  refine lv_aload_n hx hb dX5_cut_5 rfl (lv_at hl 0 rfl) ?_
  refine lv_iload_n hx hb dX5_cut_6 rfl (lv_at hl 1 rfl) ?_
  refine lv_iload_n hx hb dX5_cut_7 rfl (lv_at hl 2 rfl) ?_
  have hPc := hP.sub (ws' := [kx_5 h0 g_row m_n m_slots 0 g_many g_loss g_less g_voteValue g_voteNumber g_allValue g_allNumber m_allMany g_nodeL g_nodeR m_nodes g_part m_partMany g_wasMany g_wasLoss g_wasValue g_wasNumber g_path m_pathMany g_heavyValue g_heavyTimes m_heavyMany g_fewest g_which g_met m_mostMet]) [0] rfl
  have hKc := hK.sub (tys' := []) [] rfl
  refine vp_callSi (W.runV (As := [.int p0, .int p1]) (rest := []) ⟨hx, hb, hml, hown, hts⟩ (c_X5_isRange l dC dI h0 g_row g_many g_loss g_less g_voteValue g_voteNumber g_allValue g_allNumber g_nodeL g_nodeR g_part g_wasMany g_wasLoss g_wasValue g_wasNumber g_path g_heavyValue g_heavyTimes g_fewest g_which g_met m_n m_slots 0 m_allMany m_nodes m_partMany m_pathMany m_heavyMany m_mostMet p0 p1) (cwV 2 hts gX5_cut_X5_isRange rfl rfl rfl (by decide +kernel) ⟨Nat.le_of_ble_eq_true rfl, Nat.le_of_ble_eq_true rfl⟩) ⟨fun a U g mk q => by obtain ⟨q0, qP, qK⟩ := q; exact ⟨q0, qP, va_K.moved (u := U) (U := U.calling g mk a) (Vm.Alike.refl U.vm) qK⟩, kx_rc5 hKc hPc (q0 := 0) rfl, fun U hU hW => ⟨rfl, by rw [hU]; exact hPc, va_K.moved hW.alike hKc⟩⟩ rfl rfl hl.1 rfl (lv_room (Nat.le_of_ble_eq_true rfl)) dX5_cut_8 ⟨Nat.le_of_ble_eq_true rfl, Nat.le_of_ble_eq_true rfl⟩) (fun r_1 w_1 => ?_)
  rcases w_1 with ⟨rfl, w_1⟩ | ⟨rfl, w_1⟩
  · have w_1 : (0 ≤ p0.toInt ∧ p0.toInt < p1.toInt ∧ p1.toInt ≤ m_n.toInt) := w_1
    refine lv_if_ne (tgt := 16) hx hb dX5_cut_11 (by decide) (fun c_2 => ?_) (fun c_2 => ?_)
    · refine lv_iload_n hx hb dX5_cut_16 rfl (lv_at hl 1 rfl) ?_
      refine lv_iconst (v := 1) hx hb dX5_cut_17 (by decide) ?_
      refine lv_iadd hx hb dX5_cut_18 ?_
      refine lv_topi (fun y_3 ey_3 => ?_)
      have i_3 : y_3.toInt = p0.toInt + 1 := ki_add ey_3 rfl rfl (om_13 w_1.1) (om_170 a1 w_1.2.1 w_1.2.2)
      refine lv_istore_n (lv' := [(3, .int y_3), (0, .ref h0), (1, .int p0), (2, .int p1)]) hx hb dX5_cut_19 rfl hl (by decide) rfl (fun ls hl => ?_)
      have LP1 : ∀ (n : Nat) (i : Int32), (p0.toInt ≤ i.toInt) → (p1.toInt - i.toInt).toNat < n → ∀ (H : Heap) (locs : List Loc), va_P (dC, dI) vwCl [kx_5 h0 g_row m_n m_slots 0 g_many g_loss g_less g_voteValue g_voteNumber g_allValue g_allNumber m_allMany g_nodeL g_nodeR m_nodes g_part m_partMany g_wasMany g_wasLoss g_wasValue g_wasNumber g_path m_pathMany g_heavyValue g_heavyTimes m_heavyMany g_fewest g_which g_met m_mostMet, kx_a g_row cyI 160 f] H → va_D A [kx_5 h0 g_row m_n m_slots 0 g_many g_loss g_less g_voteValue g_voteNumber g_allValue g_allNumber m_allMany g_nodeL g_nodeR m_nodes g_part m_partMany g_wasMany g_wasLoss g_wasValue g_wasNumber g_path m_pathMany g_heavyValue g_heavyTimes m_heavyMany g_fewest g_which g_met m_mostMet, kx_a g_row cyI 160 f] → va_S A s.heap H locs → ∀ (ls : Array Slot), lv_has ls 6 [(3, .int i), (0, .ref h0), (1, .int p0), (2, .int p1)] → W p l e (headSpec wsX5_cut ({ frames := 2, cells := 0, slots := 0, locals := 90 })).room s m ([.ref h0, .int p0, .int p1] : List Value).toArray below meth c H locs 0 0 (MQ below (va_Qi (fun (r : Int32) (_ : Unit) => True) (fun (_ : Unit) (t : State) => va_P (dC, dI) vwCl [kx_5 h0 g_row m_n m_slots 0 g_many g_loss g_less g_voteValue g_voteNumber g_allValue g_allNumber m_allMany g_nodeL g_nodeR m_nodes g_part m_partMany g_wasMany g_wasLoss g_wasValue g_wasNumber g_path m_pathMany g_heavyValue g_heavyTimes m_heavyMany g_fewest g_which g_met m_mostMet, kx_a g_row cyI 160 f] t.heap ∧ va_K (dC, dI) vwCl [(cyI, .int)] t ∧ va_D A [kx_5 h0 g_row m_n m_slots 0 g_many g_loss g_less g_voteValue g_voteNumber g_allValue g_allNumber m_allMany g_nodeL g_nodeR m_nodes g_part m_partMany g_wasMany g_wasLoss g_wasValue g_wasNumber g_path m_pathMany g_heavyValue g_heavyTimes m_heavyMany g_fewest g_which g_met m_mostMet, kx_a g_row cyI 160 f]) A) ([.ref h0, .int p0, .int p1] : List Value).toArray s 0 0 A) (F0 m 20 ls []) := by
        intro n
        induction n with
        | zero => intro i LP1_h0 hn; exact absurd hn (Nat.not_lt_zero _)
        | succ n ih1 =>
          intro i LP1_h0 hn1 H locs hP hD hS ls hl
          refine lv_iload_n hx hb dX5_cut_20 rfl (lv_at hl 0 rfl) ?_
          refine lv_iload_n hx hb dX5_cut_21 rfl (lv_at hl 3 rfl) ?_
          refine lv_icmp_ge (tgt := 70) hx hb dX5_cut_22 (by decide) (fun c_4 => ?_) (fun c_4 => ?_)
          · have i_4 : p1.toInt ≤ i.toInt := kc_le c_4
            refine lv_iconst (v := (-1)) hx hb dX5_cut_70 (by decide) ?_
            have hP9 := hP
            have hD9 := hD
            have hK9 := hK
            exact W.iret (v := (-1)) hx hb hr (hlocks := hlocks) (fun t ht hW => ⟨⟨(-1), (), rfl, trivial, by rw [ht]; exact hP9, va_K.moved hW.alike hK9, hD9⟩, hS.F ht⟩) hS.2.2 dX5_cut_71
          · have i_4 : i.toInt < p1.toInt := kc_nle c_4
            refine lv_aload_n hx hb dX5_cut_25 rfl (lv_at hl 1 rfl) ?_
            refine lv_iload_n hx hb dX5_cut_26 rfl (lv_at hl 2 rfl) ?_
            refine lv_iload_n hx hb dX5_cut_27 rfl (lv_at hl 0 rfl) ?_
            have hPc := hP
            have hKc := hK
            refine vp_callSi (W.runV (As := [.int p0, .int i]) (rest := []) ⟨hx, hb, hml, hown, hts⟩ (c_X5_majorityOf l dC dI h0 g_row g_many g_loss g_less g_voteValue g_voteNumber g_allValue g_allNumber g_nodeL g_nodeR g_part g_wasMany g_wasLoss g_wasValue g_wasNumber g_path g_heavyValue g_heavyTimes g_fewest g_which g_met m_n m_slots 0 m_allMany m_nodes m_partMany m_pathMany m_heavyMany m_mostMet cyI f p0 i (om_10 w_1.1) (om_171 a1 w_1.2.2 i_4)) (cwV 2 hts gX5_cut_X5_majorityOf rfl rfl rfl (by decide +kernel) ⟨Nat.le_of_ble_eq_true rfl, Nat.le_of_ble_eq_true rfl⟩) ⟨fun a U g mk q => by obtain ⟨q0, qP, qK⟩ := q; exact ⟨q0, qP, va_K.moved (u := U) (U := U.calling g mk a) (Vm.Alike.refl U.vm) qK⟩, kx_rc5 hKc hPc (q0 := 0) rfl, fun U hU hW => ⟨rfl, by rw [hU]; exact hPc, va_K.moved hW.alike hKc⟩⟩ rfl rfl hl.1 rfl (lv_room (Nat.le_of_ble_eq_true rfl)) dX5_cut_28 ⟨Nat.le_of_ble_eq_true rfl, Nat.le_of_ble_eq_true rfl⟩) (fun r_5 w_5 => ?_)
            refine lv_istore (lv' := [(4, .int r_5), (3, .int i), (0, .ref h0), (1, .int p0), (2, .int p1)]) hx hb dX5_cut_31 hl (by decide) rfl (fun ls hl => ?_)
            refine lv_aload_n hx hb dX5_cut_33 rfl (lv_at hl 2 rfl) ?_
            refine lv_iload_n hx hb dX5_cut_34 rfl (lv_at hl 1 rfl) ?_
            refine lv_iload_n hx hb dX5_cut_35 rfl (lv_at hl 4 rfl) ?_
            have hPc := hP
            have hKc := hK
            refine vp_callSi (W.runV (As := [.int i, .int p1]) (rest := []) ⟨hx, hb, hml, hown, hts⟩ (c_X5_majorityOf l dC dI h0 g_row g_many g_loss g_less g_voteValue g_voteNumber g_allValue g_allNumber g_nodeL g_nodeR g_part g_wasMany g_wasLoss g_wasValue g_wasNumber g_path g_heavyValue g_heavyTimes g_fewest g_which g_met m_n m_slots 0 m_allMany m_nodes m_partMany m_pathMany m_heavyMany m_mostMet cyI f i p1 (om_0 w_1.1 LP1_h0) (om_167 a1 w_1.2.2)) (cwV 2 hts gX5_cut_X5_majorityOf rfl rfl rfl (by decide +kernel) ⟨Nat.le_of_ble_eq_true rfl, Nat.le_of_ble_eq_true rfl⟩) ⟨fun a U g mk q => by obtain ⟨q0, qP, qK⟩ := q; exact ⟨q0, qP, va_K.moved (u := U) (U := U.calling g mk a) (Vm.Alike.refl U.vm) qK⟩, kx_rc5 hKc hPc (q0 := 0) rfl, fun U hU hW => ⟨rfl, by rw [hU]; exact hPc, va_K.moved hW.alike hKc⟩⟩ rfl rfl hl.1 rfl (lv_room (Nat.le_of_ble_eq_true rfl)) dX5_cut_36 ⟨Nat.le_of_ble_eq_true rfl, Nat.le_of_ble_eq_true rfl⟩) (fun r_6 w_6 => ?_)
            refine lv_istore (lv' := [(5, .int r_6), (4, .int r_5), (3, .int i), (0, .ref h0), (1, .int p0), (2, .int p1)]) hx hb dX5_cut_39 hl (by decide) rfl (fun ls hl => ?_)
            refine lv_iload hx hb dX5_cut_41 (lv_at hl 1 rfl) ?_
            refine lv_ldc (v := (-40000)) hx hb hown hk_148 dX5_cut_43 ?_
            refine lv_icmp_eq (tgt := 64) hx hb dX5_cut_45 (by decide) (fun c_7 => ?_) (fun c_7 => ?_)
            · have i_7 : r_5.toInt = (-40000) := kc_eq c_7
              obtain ⟨x_8, ex_8⟩ : ∃ y : Int32, y = i + 1 := ⟨_, rfl⟩
              have i_8 : x_8.toInt = i.toInt + 1 := ki_add ex_8 rfl rfl (om_2 w_1.1 LP1_h0) (om_172 a1 w_1.2.2 i_4)
              refine lv_iinc (v := x_8) (lv' := [(3, .int x_8), (5, .int r_6), (4, .int r_5), (0, .ref h0), (1, .int p0), (2, .int p1)]) hx hb dX5_cut_64 hl (k := 2) rfl (by rw [ex_8]; rfl) (by decide) rfl (fun ls hl => ?_)
              refine lv_goto (tgt := 20) hx hb dX5_cut_67 (by decide) ?_
              exact ih1 x_8 (om_4 LP1_h0 i_8) (om_mu hn1 (om_5 i_8) (om_6 i_4)) _ _ hP hD hS ls (lv_sub hl [0, 3, 4, 5] rfl)
            · have i_7 : ¬ r_5.toInt = (-40000) := kc_ne c_7
              refine lv_iload hx hb dX5_cut_48 (lv_at hl 0 rfl) ?_
              refine lv_ldc (v := (-40000)) hx hb hown hk_148 dX5_cut_50 ?_
              refine lv_icmp_eq (tgt := 64) hx hb dX5_cut_52 (by decide) (fun c_9 => ?_) (fun c_9 => ?_)
              · have i_9 : r_6.toInt = (-40000) := kc_eq c_9
                obtain ⟨x_10, ex_10⟩ : ∃ y : Int32, y = i + 1 := ⟨_, rfl⟩
                have i_10 : x_10.toInt = i.toInt + 1 := ki_add ex_10 rfl rfl (om_2 w_1.1 LP1_h0) (om_172 a1 w_1.2.2 i_4)
                refine lv_iinc (v := x_10) (lv' := [(3, .int x_10), (5, .int r_6), (4, .int r_5), (0, .ref h0), (1, .int p0), (2, .int p1)]) hx hb dX5_cut_64 hl (k := 2) rfl (by rw [ex_10]; rfl) (by decide) rfl (fun ls hl => ?_)
                refine lv_goto (tgt := 20) hx hb dX5_cut_67 (by decide) ?_
                exact ih1 x_10 (om_4 LP1_h0 i_10) (om_mu hn1 (om_5 i_10) (om_6 i_4)) _ _ hP hD hS ls (lv_sub hl [0, 3, 4, 5] rfl)
              · have i_9 : ¬ r_6.toInt = (-40000) := kc_ne c_9
                refine lv_iload hx hb dX5_cut_55 (lv_at hl 1 rfl) ?_
                refine lv_iload hx hb dX5_cut_57 (lv_at hl 0 rfl) ?_
                refine lv_icmp_eq (tgt := 64) hx hb dX5_cut_59 (by decide) (fun c_11 => ?_) (fun c_11 => ?_)
                · have i_11 : r_5.toInt = r_6.toInt := kc_eq c_11
                  obtain ⟨x_12, ex_12⟩ : ∃ y : Int32, y = i + 1 := ⟨_, rfl⟩
                  have i_12 : x_12.toInt = i.toInt + 1 := ki_add ex_12 rfl rfl (om_2 w_1.1 LP1_h0) (om_172 a1 w_1.2.2 i_4)
                  refine lv_iinc (v := x_12) (lv' := [(3, .int x_12), (5, .int r_6), (4, .int r_5), (0, .ref h0), (1, .int p0), (2, .int p1)]) hx hb dX5_cut_64 hl (k := 2) rfl (by rw [ex_12]; rfl) (by decide) rfl (fun ls hl => ?_)
                  refine lv_goto (tgt := 20) hx hb dX5_cut_67 (by decide) ?_
                  exact ih1 x_12 (om_4 LP1_h0 i_12) (om_mu hn1 (om_5 i_12) (om_6 i_4)) _ _ hP hD hS ls (lv_sub hl [0, 3, 4, 5] rfl)
                · have i_11 : ¬ r_5.toInt = r_6.toInt := kc_ne c_11
                  refine lv_iload_n hx hb dX5_cut_62 rfl (lv_at hl 2 rfl) ?_
                  have hP9 := hP
                  have hD9 := hD
                  have hK9 := hK
                  exact W.iret (v := i) hx hb hr (hlocks := hlocks) (fun t ht hW => ⟨⟨i, (), rfl, trivial, by rw [ht]; exact hP9, va_K.moved hW.alike hK9, hD9⟩, hS.F ht⟩) hS.2.2 dX5_cut_63
      exact LP1 ((p1.toInt - y_3.toInt : Int).toNat + 1) y_3 (om_173 i_3) (Nat.lt_succ_self _) _ _ hP hD hS ls (lv_sub hl [0, 1, 2, 3] rfl)
    · exact absurd c_2 (by decide)
  · have w_1 : (p0.toInt < 0 ∨ p1.toInt ≤ p0.toInt ∨ m_n.toInt < p1.toInt) := w_1
    refine lv_if_ne (tgt := 16) hx hb dX5_cut_11 (by decide) (fun c_13 => ?_) (fun c_13 => ?_)
    · exact absurd c_13 (by decide)
    · refine lv_iconst (v := (-1)) hx hb dX5_cut_14 (by decide) ?_
      have hP9 := hP
      have hD9 := hD
      have hK9 := hK
      exact W.iret (v := (-1)) hx hb hr (hlocks := hlocks) (fun t ht hW => ⟨⟨(-1), (), rfl, trivial, by rw [ht]; exact hP9, va_K.moved hW.alike hK9, hD9⟩, hS.F ht⟩) hS.2.2 dX5_cut_15

set_option maxHeartbeats 4000000 in
set_option maxRecDepth 100000 in
theorem c_X5_would (l : Launch) (dC : Nat → ClassId) (dI : Nat → Nat → Nat) (h0 : Nat) (g_row : Nat) (g_many : Nat) (g_loss : Nat) (g_less : Nat) (g_voteValue : Nat) (g_voteNumber : Nat) (g_allValue : Nat) (g_allNumber : Nat) (g_nodeL : Nat) (g_nodeR : Nat) (g_part : Nat) (g_wasMany : Nat) (g_wasLoss : Nat) (g_wasValue : Nat) (g_wasNumber : Nat) (g_path : Nat) (g_heavyValue : Nat) (g_heavyTimes : Nat) (g_fewest : Nat) (g_which : Nat) (g_met : Nat) (m_n : Int32) (m_slots : Int32) (m_thrown : Int32) (m_allMany : Int32) (m_nodes : Int32) (m_partMany : Int32) (m_pathMany : Int32) (m_heavyMany : Int32) (m_mostMet : Int32) (cyI : ClassId) (f : Nat → Int32) (p0 : Int32) (p1 : Int32) (p2 : Int32) (p3 : Int32) (sz : Nat) (a0 : 0 ≤ m_n.toInt) (a1 : m_n.toInt ≤ 160) : kx_MQ l (dC, dI) yX5_would wsX5_would ({ frames := 2, cells := 0, slots := 0, locals := 90 }) [.ref h0, .int p0, .int p1, .int p2, .int p3] [kx_5 h0 g_row m_n m_slots m_thrown g_many g_loss g_less g_voteValue g_voteNumber g_allValue g_allNumber m_allMany g_nodeL g_nodeR m_nodes g_part m_partMany g_wasMany g_wasLoss g_wasValue g_wasNumber g_path m_pathMany g_heavyValue g_heavyTimes m_heavyMany g_fewest g_which g_met m_mostMet, kx_a g_row cyI 160 f] [(cyI, .int)] sz (fun A => va_Qi (fun (r : Int32) (u : (Nat → Int32)) => u = f) (fun (u : (Nat → Int32)) (t : State) => va_P (dC, dI) vwCl [kx_5 h0 g_row m_n m_slots 0 g_many g_loss g_less g_voteValue g_voteNumber g_allValue g_allNumber m_allMany g_nodeL g_nodeR m_nodes g_part m_partMany g_wasMany g_wasLoss g_wasValue g_wasNumber g_path m_pathMany g_heavyValue g_heavyTimes m_heavyMany g_fewest g_which g_met m_mostMet, kx_a g_row cyI 160 u] t.heap ∧ va_K (dC, dI) vwCl [(cyI, .int)] t ∧ va_D A [kx_5 h0 g_row m_n m_slots 0 g_many g_loss g_less g_voteValue g_voteNumber g_allValue g_allNumber m_allMany g_nodeL g_nodeR m_nodes g_part m_partMany g_wasMany g_wasLoss g_wasValue g_wasNumber g_path m_pathMany g_heavyValue g_heavyTimes m_heavyMany g_fewest g_which g_met m_mostMet, kx_a g_row cyI 160 u]) A) := by
  refine kx_stQ (ws := wsX5_would) (cc := cX5_would) (maxL := 7) (ret := (some .int)) (by decide) rfl (Nat.le_of_ble_eq_true rfl) ?_
  intro p e s m below meth c A ls hx hb hr hlocks hts hown hml hA hS hP hK hD hl
  have hown : s.vm.findClass RX5 = some m.cls := hown
  have hl : lv_has ls 7 [(0, .ref h0), (1, .int p0), (2, .int p1), (3, .int p2), (4, .int p3)] := hl
  have hf_77 := hts (.fieldLink RX5 77 "MajorityIndexModel" "thrown" "I") (List.mem_of_getElem? (i := 1) rfl)
  have hi_5 : ∀ w ∈ u_ws RX5 TX5 30, w ∈ wsX5_would := fun w h => List.mem_cons_of_mem _ (List.mem_append_right _ h)
  have hf_7 := hts (.fieldLink RX5 7 "MajorityIndexModel" "row" "[I") (List.mem_of_getElem? (i := 3) rfl)
  have hk_148 := hts (.constant RX5 148 (-40000)) (List.mem_of_getElem? (i := 2) rfl)
  refine lv_aload_n hx hb dX5_would_0 rfl (lv_at hl 0 rfl) ?_
  refine lv_iconst (v := 0) hx hb dX5_would_1 (by decide) ?_
  refine va_put (D := (dC, dI)) (ci := 5) (v := .int 0) (ty := .int) (C := RX5) (T := TX5) (N := 30) hx hb hts hi_5 tyX5 tyX5_ok nmX5 hown hK hP hD hS 0 rfl rfl 3 (by decide) hf_77 (fun _ h9 => h9) rfl (by decide +kernel) rfl rfl (Nat.le_of_ble_eq_true rfl) dX5_would_2 (fun H locs hP hD hS => ?_)
  obtain ⟨hP, hD⟩ := kx_re (w2 := [kx_5 h0 g_row m_n m_slots 0 g_many g_loss g_less g_voteValue g_voteNumber g_allValue g_allNumber m_allMany g_nodeL g_nodeR m_nodes g_part m_partMany g_wasMany g_wasLoss g_wasValue g_wasNumber g_path m_pathMany g_heavyValue g_heavyTimes m_heavyMany g_fewest g_which g_met m_mostMet, kx_a g_row cyI 160 f]) hP hD rfl
  refine lv_aload_n hx hb dX5_would_5 rfl (lv_at hl 0 rfl) ?_
  refine lv_iload_n hx hb dX5_would_6 rfl (lv_at hl 1 rfl) ?_
  have hPc := hP.sub (ws' := [kx_5 h0 g_row m_n m_slots 0 g_many g_loss g_less g_voteValue g_voteNumber g_allValue g_allNumber m_allMany g_nodeL g_nodeR m_nodes g_part m_partMany g_wasMany g_wasLoss g_wasValue g_wasNumber g_path m_pathMany g_heavyValue g_heavyTimes m_heavyMany g_fewest g_which g_met m_mostMet]) [0] rfl
  have hKc := hK.sub (tys' := []) [] rfl
  refine vp_callSi (W.runV (As := [.int p0]) (rest := []) ⟨hx, hb, hml, hown, hts⟩ (c_X5_isPlace l dC dI h0 g_row g_many g_loss g_less g_voteValue g_voteNumber g_allValue g_allNumber g_nodeL g_nodeR g_part g_wasMany g_wasLoss g_wasValue g_wasNumber g_path g_heavyValue g_heavyTimes g_fewest g_which g_met m_n m_slots 0 m_allMany m_nodes m_partMany m_pathMany m_heavyMany m_mostMet p0 a0 a1) (cwV 1 hts gX5_would_X5_isPlace rfl rfl rfl (by decide +kernel) ⟨Nat.le_of_ble_eq_true rfl, Nat.le_of_ble_eq_true rfl⟩) ⟨fun a U g mk q => by obtain ⟨q0, qP, qK⟩ := q; exact ⟨q0, qP, va_K.moved (u := U) (U := U.calling g mk a) (Vm.Alike.refl U.vm) qK⟩, kx_rc5 hKc hPc (q0 := 0) rfl, fun U hU hW => ⟨rfl, by rw [hU]; exact hPc, va_K.moved hW.alike hKc⟩⟩ rfl rfl hl.1 rfl (lv_room (Nat.le_of_ble_eq_true rfl)) dX5_would_7 ⟨Nat.le_of_ble_eq_true rfl, Nat.le_of_ble_eq_true rfl⟩) (fun r_1 w_1 => ?_)
  rcases w_1 with ⟨rfl, w_1⟩ | ⟨rfl, w_1⟩
  · have w_1 : (0 ≤ p0.toInt ∧ p0.toInt < m_n.toInt) := w_1
    refine lv_if_eq (tgt := 30) hx hb dX5_would_10 (by decide) (fun c_2 => ?_) (fun c_2 => ?_)
    · exact absurd c_2 (by decide)
    · refine lv_iload_n hx hb dX5_would_13 rfl (lv_at hl 2 rfl) ?_
      have hPc := hP.sub (ws' := []) [] rfl
      have hKc := hK.sub (tys' := []) [] rfl
      refine vp_callSi (W.runS (As := [.int p1]) (rest := []) ⟨hx, hb, hml, hown, hts⟩ (c_X5_isValue l dC dI p1) (va_cwS 1 hts gX5_would_X5_isValue rfl rfl rfl (by decide +kernel) ⟨Nat.le_of_ble_eq_true rfl, Nat.le_of_ble_eq_true rfl⟩) ⟨fun a U g mk q => by obtain ⟨q0, qP, qK⟩ := q; exact ⟨q0, qP, va_K.moved (u := U) (U := U.calling g mk a) (Vm.Alike.refl U.vm) qK⟩, fun U hU hW => ⟨rfl, by rw [hU]; exact hPc, va_K.moved hW.alike hKc⟩⟩ rfl rfl hl.1 rfl (lv_room (Nat.le_of_ble_eq_true rfl)) dX5_would_14 ⟨Nat.le_of_ble_eq_true rfl, Nat.le_of_ble_eq_true rfl⟩) (fun r_3 w_3 => ?_)
      rcases w_3 with ⟨rfl, w_3⟩ | ⟨rfl, w_3⟩
      · have w_3 : (-32768 ≤ p1.toInt ∧ p1.toInt ≤ 32767) := w_3
        refine lv_if_eq (tgt := 30) hx hb dX5_would_17 (by decide) (fun c_4 => ?_) (fun c_4 => ?_)
        · exact absurd c_4 (by decide)
        · refine lv_aload_n hx hb dX5_would_20 rfl (lv_at hl 0 rfl) ?_
          refine lv_iload_n hx hb dX5_would_21 rfl (lv_at hl 3 rfl) ?_
          refine lv_iload hx hb dX5_would_22 (lv_at hl 4 rfl) ?_
          have hPc := hP.sub (ws' := [kx_5 h0 g_row m_n m_slots 0 g_many g_loss g_less g_voteValue g_voteNumber g_allValue g_allNumber m_allMany g_nodeL g_nodeR m_nodes g_part m_partMany g_wasMany g_wasLoss g_wasValue g_wasNumber g_path m_pathMany g_heavyValue g_heavyTimes m_heavyMany g_fewest g_which g_met m_mostMet]) [0] rfl
          have hKc := hK.sub (tys' := []) [] rfl
          refine vp_callSi (W.runV (As := [.int p2, .int p3]) (rest := []) ⟨hx, hb, hml, hown, hts⟩ (c_X5_isRange l dC dI h0 g_row g_many g_loss g_less g_voteValue g_voteNumber g_allValue g_allNumber g_nodeL g_nodeR g_part g_wasMany g_wasLoss g_wasValue g_wasNumber g_path g_heavyValue g_heavyTimes g_fewest g_which g_met m_n m_slots 0 m_allMany m_nodes m_partMany m_pathMany m_heavyMany m_mostMet p2 p3) (cwV 2 hts gX5_would_X5_isRange rfl rfl rfl (by decide +kernel) ⟨Nat.le_of_ble_eq_true rfl, Nat.le_of_ble_eq_true rfl⟩) ⟨fun a U g mk q => by obtain ⟨q0, qP, qK⟩ := q; exact ⟨q0, qP, va_K.moved (u := U) (U := U.calling g mk a) (Vm.Alike.refl U.vm) qK⟩, kx_rc5 hKc hPc (q0 := 0) rfl, fun U hU hW => ⟨rfl, by rw [hU]; exact hPc, va_K.moved hW.alike hKc⟩⟩ rfl rfl hl.1 rfl (lv_room (Nat.le_of_ble_eq_true rfl)) dX5_would_24 ⟨Nat.le_of_ble_eq_true rfl, Nat.le_of_ble_eq_true rfl⟩) (fun r_5 w_5 => ?_)
          rcases w_5 with ⟨rfl, w_5⟩ | ⟨rfl, w_5⟩
          · have w_5 : (0 ≤ p2.toInt ∧ p2.toInt < p3.toInt ∧ p3.toInt ≤ m_n.toInt) := w_5
            refine lv_if_ne (tgt := 33) hx hb dX5_would_27 (by decide) (fun c_6 => ?_) (fun c_6 => ?_)
            · refine lv_aload_n hx hb dX5_would_33 rfl (lv_at hl 0 rfl) ?_
              refine va_get (D := (dC, dI)) (ci := 5) (v := .ref g_row) (C := RX5) (T := TX5) (N := 30) hx hb hts hi_5 hown hK hP 0 rfl rfl 0 (by decide) hf_7 (fun _ h9 => h9) rfl dX5_would_34 ?_
              refine lv_iload_n hx hb dX5_would_37 rfl (lv_at hl 1 rfl) ?_
              refine va_iald hx hb hK hP 1 0 rfl rfl (ki_in (om_10 w_1.1) (om_1 a1 w_1.2)) dX5_would_38 ?_
              refine lv_topi (fun y_7 ey_7 => ?_)
              have j_7 : y_7.toInt = (f p0.toNatClampNeg).toInt := congrArg Int32.toInt ey_7
              refine lv_istore (lv' := [(5, .int y_7), (0, .ref h0), (1, .int p0), (2, .int p1), (3, .int p2), (4, .int p3)]) hx hb dX5_would_39 hl (by decide) rfl (fun ls hl => ?_)
              refine lv_aload_n hx hb dX5_would_41 rfl (lv_at hl 1 rfl) ?_
              refine va_get (D := (dC, dI)) (ci := 5) (v := .ref g_row) (C := RX5) (T := TX5) (N := 30) hx hb hts hi_5 hown hK hP 0 rfl rfl 0 (by decide) hf_7 (fun _ h9 => h9) rfl dX5_would_42 ?_
              refine lv_iload_n hx hb dX5_would_45 rfl (lv_at hl 2 rfl) ?_
              refine lv_iload_n hx hb dX5_would_46 rfl (lv_at hl 3 rfl) ?_
              refine va_iast hx hb hK hP hD hS 1 0 rfl rfl (ki_in (om_10 w_1.1) (om_1 a1 w_1.2)) dX5_would_47 (fun H locs hP hD hS => ?_)
              obtain ⟨hP, hD⟩ := kx_re (w2 := [kx_5 h0 g_row m_n m_slots 0 g_many g_loss g_less g_voteValue g_voteNumber g_allValue g_allNumber m_allMany g_nodeL g_nodeR m_nodes g_part m_partMany g_wasMany g_wasLoss g_wasValue g_wasNumber g_path m_pathMany g_heavyValue g_heavyTimes m_heavyMany g_fewest g_which g_met m_mostMet, kx_a g_row cyI 160 (upd f p0.toNatClampNeg p1)]) hP hD rfl
              refine lv_aload_n hx hb dX5_would_48 rfl (lv_at hl 1 rfl) ?_
              refine lv_iload_n hx hb dX5_would_49 rfl (lv_at hl 4 rfl) ?_
              refine lv_iload hx hb dX5_would_50 (lv_at hl 5 rfl) ?_
              have hPc := hP
              have hKc := hK
              refine vp_callSi (W.runV (As := [.int p2, .int p3]) (rest := []) ⟨hx, hb, hml, hown, hts⟩ (c_X5_majorityOf l dC dI h0 g_row g_many g_loss g_less g_voteValue g_voteNumber g_allValue g_allNumber g_nodeL g_nodeR g_part g_wasMany g_wasLoss g_wasValue g_wasNumber g_path g_heavyValue g_heavyTimes g_fewest g_which g_met m_n m_slots 0 m_allMany m_nodes m_partMany m_pathMany m_heavyMany m_mostMet cyI (upd f p0.toNatClampNeg p1) p2 p3 (om_10 w_5.1) (om_167 a1 w_5.2.2)) (cwV 2 hts gX5_would_X5_majorityOf rfl rfl rfl (by decide +kernel) ⟨Nat.le_of_ble_eq_true rfl, Nat.le_of_ble_eq_true rfl⟩) ⟨fun a U g mk q => by obtain ⟨q0, qP, qK⟩ := q; exact ⟨q0, qP, va_K.moved (u := U) (U := U.calling g mk a) (Vm.Alike.refl U.vm) qK⟩, kx_rc5 hKc hPc (q0 := 0) rfl, fun U hU hW => ⟨rfl, by rw [hU]; exact hPc, va_K.moved hW.alike hKc⟩⟩ rfl rfl hl.1 rfl (lv_room (Nat.le_of_ble_eq_true rfl)) dX5_would_52 ⟨Nat.le_of_ble_eq_true rfl, Nat.le_of_ble_eq_true rfl⟩) (fun r_8 w_8 => ?_)
              refine lv_istore (lv' := [(6, .int r_8), (5, .int y_7), (0, .ref h0), (1, .int p0), (2, .int p1), (3, .int p2), (4, .int p3)]) hx hb dX5_would_55 hl (by decide) rfl (fun ls hl => ?_)
              refine lv_aload_n hx hb dX5_would_57 rfl (lv_at hl 2 rfl) ?_
              refine va_get (D := (dC, dI)) (ci := 5) (v := .ref g_row) (C := RX5) (T := TX5) (N := 30) hx hb hts hi_5 hown hK hP 0 rfl rfl 0 (by decide) hf_7 (fun _ h9 => h9) rfl dX5_would_58 ?_
              refine lv_iload_n hx hb dX5_would_61 rfl (lv_at hl 3 rfl) ?_
              refine lv_iload hx hb dX5_would_62 (lv_at hl 1 rfl) ?_
              refine va_iast hx hb hK hP hD hS 1 0 rfl rfl (ki_in (om_10 w_1.1) (om_1 a1 w_1.2)) dX5_would_64 (fun H locs hP hD hS => ?_)
              obtain ⟨hP, hD⟩ := kx_re (w2 := [kx_5 h0 g_row m_n m_slots 0 g_many g_loss g_less g_voteValue g_voteNumber g_allValue g_allNumber m_allMany g_nodeL g_nodeR m_nodes g_part m_partMany g_wasMany g_wasLoss g_wasValue g_wasNumber g_path m_pathMany g_heavyValue g_heavyTimes m_heavyMany g_fewest g_which g_met m_mostMet, kx_a g_row cyI 160 (upd (upd f p0.toNatClampNeg p1) p0.toNatClampNeg y_7)]) hP hD rfl
              refine lv_iload hx hb dX5_would_65 (lv_at hl 0 rfl) ?_
              have hP9 := hP
              have hD9 := hD
              have hK9 := hK
              exact W.iret (v := r_8) hx hb hr (hlocks := hlocks) (fun t ht hW => ⟨⟨r_8, ((upd (upd f p0.toNatClampNeg p1) p0.toNatClampNeg y_7)), rfl, (by (try dsimp only); rw [ey_7]; exact upd_back _ _ _), by rw [ht]; exact hP9, va_K.moved hW.alike hK9, hD9⟩, hS.F ht⟩) hS.2.2 dX5_would_67
            · exact absurd c_6 (by decide)
          · have w_5 : (p2.toInt < 0 ∨ p3.toInt ≤ p2.toInt ∨ m_n.toInt < p3.toInt) := w_5
            refine lv_if_ne (tgt := 33) hx hb dX5_would_27 (by decide) (fun c_9 => ?_) (fun c_9 => ?_)
            · exact absurd c_9 (by decide)
            · refine lv_ldc (v := (-40000)) hx hb hown hk_148 dX5_would_30 ?_
              have hP9 := hP
              have hD9 := hD
              have hK9 := hK
              exact W.iret (v := (-40000)) hx hb hr (hlocks := hlocks) (fun t ht hW => ⟨⟨(-40000), (f), rfl, rfl, by rw [ht]; exact hP9, va_K.moved hW.alike hK9, hD9⟩, hS.F ht⟩) hS.2.2 dX5_would_32
      · have w_3 : (p1.toInt < -32768 ∨ 32767 < p1.toInt) := w_3
        refine lv_if_eq (tgt := 30) hx hb dX5_would_17 (by decide) (fun c_10 => ?_) (fun c_10 => ?_)
        · refine lv_ldc (v := (-40000)) hx hb hown hk_148 dX5_would_30 ?_
          have hP9 := hP
          have hD9 := hD
          have hK9 := hK
          exact W.iret (v := (-40000)) hx hb hr (hlocks := hlocks) (fun t ht hW => ⟨⟨(-40000), (f), rfl, rfl, by rw [ht]; exact hP9, va_K.moved hW.alike hK9, hD9⟩, hS.F ht⟩) hS.2.2 dX5_would_32
        · exact absurd c_10 (by decide)
  · have w_1 : (p0.toInt < 0 ∨ m_n.toInt ≤ p0.toInt) := w_1
    refine lv_if_eq (tgt := 30) hx hb dX5_would_10 (by decide) (fun c_11 => ?_) (fun c_11 => ?_)
    · refine lv_ldc (v := (-40000)) hx hb hown hk_148 dX5_would_30 ?_
      have hP9 := hP
      have hD9 := hD
      have hK9 := hK
      exact W.iret (v := (-40000)) hx hb hr (hlocks := hlocks) (fun t ht hW => ⟨⟨(-40000), (f), rfl, rfl, by rw [ht]; exact hP9, va_K.moved hW.alike hK9, hD9⟩, hS.F ht⟩) hS.2.2 dX5_would_32
    · exact absurd c_11 (by decide)



abbrev cX5_one : ByteArray := prog_7_method_8_code
def yX5_one : MethodName := ⟨RX5, "one", "(II)V"⟩
abbrev cX5_adds : ByteArray := prog_7_method_9_code
def yX5_adds : MethodName := ⟨RX5, "adds", "(II)V"⟩
abbrev cX5_isAhead : ByteArray := prog_7_method_10_code
def yX5_isAhead : MethodName := ⟨RX5, "isAhead", "(II)Z"⟩
abbrev cX5_nodeOf : ByteArray := prog_7_method_15_code
def yX5_nodeOf : MethodName := ⟨RX5, "nodeOf", "(II)I"⟩
abbrev cX5_copies : ByteArray := prog_7_method_18_code
def yX5_copies : MethodName := ⟨RX5, "copies", "(II)V"⟩
abbrev cX5_numberOf : ByteArray := prog_7_method_19_code
def yX5_numberOf : MethodName := ⟨RX5, "numberOf", "(II)I"⟩
abbrev cX5_numbersOf : ByteArray := prog_7_method_48_code
def yX5_numbersOf : MethodName := ⟨RX5, "numbersOf", "(I)I"⟩
def wsX5_one : List Cond := .code yX5_one cX5_one 3 none :: ([.fieldLink RX5 17 "MajorityIndexModel" "many" "[I", .fieldLink RX5 20 "MajorityIndexModel" "loss" "[I", .fieldLink RX5 23 "MajorityIndexModel" "less" "[I", .fieldLink RX5 26 "MajorityIndexModel" "voteValue" "[I", .fieldLink RX5 29 "MajorityIndexModel" "voteNumber" "[I"] ++ wsX50)
def wsX5_adds : List Cond := .code yX5_adds cX5_adds 4 none :: ([.fieldLink RX5 87 "MajorityIndexModel" "allMany" "I", .fieldLink RX5 32 "MajorityIndexModel" "allValue" "[I", .fieldLink RX5 35 "MajorityIndexModel" "allNumber" "[I"] ++ wsX50)
def wsX5_isAhead : List Cond := .code yX5_isAhead cX5_isAhead 3 (some .boolean) :: ([.fieldLink RX5 35 "MajorityIndexModel" "allNumber" "[I", .fieldLink RX5 32 "MajorityIndexModel" "allValue" "[I"] ++ wsX50)
def wsX5_nodeOf : List Cond := .code yX5_nodeOf cX5_nodeOf 4 (some .int) :: ([.fieldLink RX5 101 "MajorityIndexModel" "nodes" "I", .fieldLink RX5 38 "MajorityIndexModel" "nodeL" "[I", .fieldLink RX5 41 "MajorityIndexModel" "nodeR" "[I"] ++ wsX50)
def wsX5_copies : List Cond := .code yX5_copies cX5_copies 4 none :: ([.fieldLink RX5 17 "MajorityIndexModel" "many" "[I", .fieldLink RX5 20 "MajorityIndexModel" "loss" "[I", .fieldLink RX5 23 "MajorityIndexModel" "less" "[I", .fieldLink RX5 26 "MajorityIndexModel" "voteValue" "[I", .fieldLink RX5 29 "MajorityIndexModel" "voteNumber" "[I"] ++ wsX50)
def wsX5_numberOf : List Cond := .code yX5_numberOf cX5_numberOf 4 (some .int) :: ([.fieldLink RX5 17 "MajorityIndexModel" "many" "[I", .fieldLink RX5 26 "MajorityIndexModel" "voteValue" "[I", .fieldLink RX5 29 "MajorityIndexModel" "voteNumber" "[I"] ++ wsX50)
def wsX5_numbersOf : List Cond := .code yX5_numbersOf cX5_numbersOf 4 (some .int) :: ([.fieldLink RX5 17 "MajorityIndexModel" "many" "[I", .fieldLink RX5 29 "MajorityIndexModel" "voteNumber" "[I"] ++ wsX50)
def dt_cX5_one_0 : List (Nat × Nat × Nat × Nat) := [(0, 42, 0, 0), (1, 180, 2, 17), (4, 27, 0, 0), (5, 4, 0, 0), (6, 79, 0, 0), (7, 42, 0, 0), (8, 180, 2, 20), (11, 27, 0, 0), (12, 3, 0, 0), (13, 79, 0, 0), (14, 42, 0, 0), (15, 180, 2, 23), (18, 27, 0, 0), (19, 3, 0, 0), (20, 79, 0, 0), (21, 42, 0, 0), (22, 180, 2, 26), (25, 16, 1, 6), (27, 27, 0, 0), (28, 104, 0, 0)]
theorem da_cX5_one_0 : fw dt_cX5_one_0 0 cX5_one.data.toList = true := by decide +kernel
theorem dX5_one_0 : decode cX5_one 0 = .ok (.aload_n 0, 1) := fo_42 (fw_get da_cX5_one_0 0 rfl)
theorem dX5_one_1 : decode cX5_one 1 = .ok (.getfield 17, 3) := fo_180 (fw_get da_cX5_one_0 1 rfl)
theorem dX5_one_4 : decode cX5_one 4 = .ok (.iload_n 1, 1) := fo_27 (fw_get da_cX5_one_0 2 rfl)
theorem dX5_one_5 : decode cX5_one 5 = .ok (.iconst 1, 1) := fo_4 (fw_get da_cX5_one_0 3 rfl)
theorem dX5_one_6 : decode cX5_one 6 = .ok (.iastore, 1) := fo_79 (fw_get da_cX5_one_0 4 rfl)
theorem dX5_one_7 : decode cX5_one 7 = .ok (.aload_n 0, 1) := fo_42 (fw_get da_cX5_one_0 5 rfl)
theorem dX5_one_8 : decode cX5_one 8 = .ok (.getfield 20, 3) := fo_180 (fw_get da_cX5_one_0 6 rfl)
theorem dX5_one_11 : decode cX5_one 11 = .ok (.iload_n 1, 1) := fo_27 (fw_get da_cX5_one_0 7 rfl)
theorem dX5_one_12 : decode cX5_one 12 = .ok (.iconst 0, 1) := fo_3 (fw_get da_cX5_one_0 8 rfl)
theorem dX5_one_13 : decode cX5_one 13 = .ok (.iastore, 1) := fo_79 (fw_get da_cX5_one_0 9 rfl)
theorem dX5_one_14 : decode cX5_one 14 = .ok (.aload_n 0, 1) := fo_42 (fw_get da_cX5_one_0 10 rfl)
theorem dX5_one_15 : decode cX5_one 15 = .ok (.getfield 23, 3) := fo_180 (fw_get da_cX5_one_0 11 rfl)
theorem dX5_one_18 : decode cX5_one 18 = .ok (.iload_n 1, 1) := fo_27 (fw_get da_cX5_one_0 12 rfl)
theorem dX5_one_19 : decode cX5_one 19 = .ok (.iconst 0, 1) := fo_3 (fw_get da_cX5_one_0 13 rfl)
theorem dX5_one_20 : decode cX5_one 20 = .ok (.iastore, 1) := fo_79 (fw_get da_cX5_one_0 14 rfl)
theorem dX5_one_21 : decode cX5_one 21 = .ok (.aload_n 0, 1) := fo_42 (fw_get da_cX5_one_0 15 rfl)
theorem dX5_one_22 : decode cX5_one 22 = .ok (.getfield 26, 3) := fo_180 (fw_get da_cX5_one_0 16 rfl)
theorem dX5_one_25 : decode cX5_one 25 = .ok (.bipush 6, 2) := fo_16 (fw_get da_cX5_one_0 17 rfl) (by decide +kernel)
theorem dX5_one_27 : decode cX5_one 27 = .ok (.iload_n 1, 1) := fo_27 (fw_get da_cX5_one_0 18 rfl)
theorem dX5_one_28 : decode cX5_one 28 = .ok (.imul, 1) := fo_104 (fw_get da_cX5_one_0 19 rfl)
def dt_cX5_one_1 : List (Nat × Nat × Nat × Nat) := [(29, 28, 0, 0), (30, 79, 0, 0), (31, 42, 0, 0), (32, 180, 2, 29), (35, 16, 1, 6), (37, 27, 0, 0), (38, 104, 0, 0), (39, 4, 0, 0), (40, 79, 0, 0), (41, 177, 0, 0)]
theorem da_cX5_one_1 : fw dt_cX5_one_1 0 cX5_one.data.toList = true := by decide +kernel
theorem dX5_one_29 : decode cX5_one 29 = .ok (.iload_n 2, 1) := fo_28 (fw_get da_cX5_one_1 0 rfl)
theorem dX5_one_30 : decode cX5_one 30 = .ok (.iastore, 1) := fo_79 (fw_get da_cX5_one_1 1 rfl)
theorem dX5_one_31 : decode cX5_one 31 = .ok (.aload_n 0, 1) := fo_42 (fw_get da_cX5_one_1 2 rfl)
theorem dX5_one_32 : decode cX5_one 32 = .ok (.getfield 29, 3) := fo_180 (fw_get da_cX5_one_1 3 rfl)
theorem dX5_one_35 : decode cX5_one 35 = .ok (.bipush 6, 2) := fo_16 (fw_get da_cX5_one_1 4 rfl) (by decide +kernel)
theorem dX5_one_37 : decode cX5_one 37 = .ok (.iload_n 1, 1) := fo_27 (fw_get da_cX5_one_1 5 rfl)
theorem dX5_one_38 : decode cX5_one 38 = .ok (.imul, 1) := fo_104 (fw_get da_cX5_one_1 6 rfl)
theorem dX5_one_39 : decode cX5_one 39 = .ok (.iconst 1, 1) := fo_4 (fw_get da_cX5_one_1 7 rfl)
theorem dX5_one_40 : decode cX5_one 40 = .ok (.iastore, 1) := fo_79 (fw_get da_cX5_one_1 8 rfl)
theorem dX5_one_41 : decode cX5_one 41 = .ok (.return_, 1) := fo_177 (fw_get da_cX5_one_1 9 rfl)
def dt_cX5_adds_0 : List (Nat × Nat × Nat × Nat) := [(0, 3, 0, 0), (1, 62, 0, 0), (2, 29, 0, 0), (3, 42, 0, 0), (4, 180, 2, 87), (7, 162, 2, 33), (10, 42, 0, 0), (11, 180, 2, 32), (14, 29, 0, 0), (15, 46, 0, 0), (16, 27, 0, 0), (17, 159, 2, 6), (20, 167, 2, 14), (23, 42, 0, 0), (24, 180, 2, 35), (27, 29, 0, 0), (28, 92, 0, 0), (29, 46, 0, 0), (30, 28, 0, 0), (31, 96, 0, 0)]
theorem da_cX5_adds_0 : fw dt_cX5_adds_0 0 cX5_adds.data.toList = true := by decide +kernel
theorem dX5_adds_0 : decode cX5_adds 0 = .ok (.iconst 0, 1) := fo_3 (fw_get da_cX5_adds_0 0 rfl)
theorem dX5_adds_1 : decode cX5_adds 1 = .ok (.istore_n 3, 1) := fo_62 (fw_get da_cX5_adds_0 1 rfl)
theorem dX5_adds_2 : decode cX5_adds 2 = .ok (.iload_n 3, 1) := fo_29 (fw_get da_cX5_adds_0 2 rfl)
theorem dX5_adds_3 : decode cX5_adds 3 = .ok (.aload_n 0, 1) := fo_42 (fw_get da_cX5_adds_0 3 rfl)
theorem dX5_adds_4 : decode cX5_adds 4 = .ok (.getfield 87, 3) := fo_180 (fw_get da_cX5_adds_0 4 rfl)
theorem dX5_adds_7 : decode cX5_adds 7 = .ok (.if_icmp .ge 33, 3) := fo_162 (fw_get da_cX5_adds_0 5 rfl) (by decide +kernel)
theorem dX5_adds_10 : decode cX5_adds 10 = .ok (.aload_n 0, 1) := fo_42 (fw_get da_cX5_adds_0 6 rfl)
theorem dX5_adds_11 : decode cX5_adds 11 = .ok (.getfield 32, 3) := fo_180 (fw_get da_cX5_adds_0 7 rfl)
theorem dX5_adds_14 : decode cX5_adds 14 = .ok (.iload_n 3, 1) := fo_29 (fw_get da_cX5_adds_0 8 rfl)
theorem dX5_adds_15 : decode cX5_adds 15 = .ok (.iaload, 1) := fo_46 (fw_get da_cX5_adds_0 9 rfl)
theorem dX5_adds_16 : decode cX5_adds 16 = .ok (.iload_n 1, 1) := fo_27 (fw_get da_cX5_adds_0 10 rfl)
theorem dX5_adds_17 : decode cX5_adds 17 = .ok (.if_icmp .eq 6, 3) := fo_159 (fw_get da_cX5_adds_0 11 rfl) (by decide +kernel)
theorem dX5_adds_20 : decode cX5_adds 20 = .ok (.goto 14, 3) := fo_167 (fw_get da_cX5_adds_0 12 rfl) (by decide +kernel)
theorem dX5_adds_23 : decode cX5_adds 23 = .ok (.aload_n 0, 1) := fo_42 (fw_get da_cX5_adds_0 13 rfl)
theorem dX5_adds_24 : decode cX5_adds 24 = .ok (.getfield 35, 3) := fo_180 (fw_get da_cX5_adds_0 14 rfl)
theorem dX5_adds_27 : decode cX5_adds 27 = .ok (.iload_n 3, 1) := fo_29 (fw_get da_cX5_adds_0 15 rfl)
theorem dX5_adds_28 : decode cX5_adds 28 = .ok (.dup2, 1) := fo_92 (fw_get da_cX5_adds_0 16 rfl)
theorem dX5_adds_29 : decode cX5_adds 29 = .ok (.iaload, 1) := fo_46 (fw_get da_cX5_adds_0 17 rfl)
theorem dX5_adds_30 : decode cX5_adds 30 = .ok (.iload_n 2, 1) := fo_28 (fw_get da_cX5_adds_0 18 rfl)
theorem dX5_adds_31 : decode cX5_adds 31 = .ok (.iadd, 1) := fo_96 (fw_get da_cX5_adds_0 19 rfl)
def dt_cX5_adds_1 : List (Nat × Nat × Nat × Nat) := [(32, 79, 0, 0), (33, 177, 0, 0), (34, 132, 2, 769), (37, 167, 2, 65501), (40, 42, 0, 0), (41, 180, 2, 32), (44, 42, 0, 0), (45, 180, 2, 87), (48, 27, 0, 0), (49, 79, 0, 0), (50, 42, 0, 0), (51, 180, 2, 35), (54, 42, 0, 0), (55, 180, 2, 87), (58, 28, 0, 0), (59, 79, 0, 0), (60, 42, 0, 0), (61, 89, 0, 0), (62, 180, 2, 87), (65, 4, 0, 0)]
theorem da_cX5_adds_1 : fw dt_cX5_adds_1 0 cX5_adds.data.toList = true := by decide +kernel
theorem dX5_adds_32 : decode cX5_adds 32 = .ok (.iastore, 1) := fo_79 (fw_get da_cX5_adds_1 0 rfl)
theorem dX5_adds_33 : decode cX5_adds 33 = .ok (.return_, 1) := fo_177 (fw_get da_cX5_adds_1 1 rfl)
theorem dX5_adds_34 : decode cX5_adds 34 = .ok (.iinc 3 1, 3) := fo_132 (fw_get da_cX5_adds_1 2 rfl) rfl (by decide +kernel)
theorem dX5_adds_37 : decode cX5_adds 37 = .ok (.goto (-35), 3) := fo_167 (fw_get da_cX5_adds_1 3 rfl) (by decide +kernel)
theorem dX5_adds_40 : decode cX5_adds 40 = .ok (.aload_n 0, 1) := fo_42 (fw_get da_cX5_adds_1 4 rfl)
theorem dX5_adds_41 : decode cX5_adds 41 = .ok (.getfield 32, 3) := fo_180 (fw_get da_cX5_adds_1 5 rfl)
theorem dX5_adds_44 : decode cX5_adds 44 = .ok (.aload_n 0, 1) := fo_42 (fw_get da_cX5_adds_1 6 rfl)
theorem dX5_adds_45 : decode cX5_adds 45 = .ok (.getfield 87, 3) := fo_180 (fw_get da_cX5_adds_1 7 rfl)
theorem dX5_adds_48 : decode cX5_adds 48 = .ok (.iload_n 1, 1) := fo_27 (fw_get da_cX5_adds_1 8 rfl)
theorem dX5_adds_49 : decode cX5_adds 49 = .ok (.iastore, 1) := fo_79 (fw_get da_cX5_adds_1 9 rfl)
theorem dX5_adds_50 : decode cX5_adds 50 = .ok (.aload_n 0, 1) := fo_42 (fw_get da_cX5_adds_1 10 rfl)
theorem dX5_adds_51 : decode cX5_adds 51 = .ok (.getfield 35, 3) := fo_180 (fw_get da_cX5_adds_1 11 rfl)
theorem dX5_adds_54 : decode cX5_adds 54 = .ok (.aload_n 0, 1) := fo_42 (fw_get da_cX5_adds_1 12 rfl)
theorem dX5_adds_55 : decode cX5_adds 55 = .ok (.getfield 87, 3) := fo_180 (fw_get da_cX5_adds_1 13 rfl)
theorem dX5_adds_58 : decode cX5_adds 58 = .ok (.iload_n 2, 1) := fo_28 (fw_get da_cX5_adds_1 14 rfl)
theorem dX5_adds_59 : decode cX5_adds 59 = .ok (.iastore, 1) := fo_79 (fw_get da_cX5_adds_1 15 rfl)
theorem dX5_adds_60 : decode cX5_adds 60 = .ok (.aload_n 0, 1) := fo_42 (fw_get da_cX5_adds_1 16 rfl)
theorem dX5_adds_61 : decode cX5_adds 61 = .ok (.dup, 1) := fo_89 (fw_get da_cX5_adds_1 17 rfl)
theorem dX5_adds_62 : decode cX5_adds 62 = .ok (.getfield 87, 3) := fo_180 (fw_get da_cX5_adds_1 18 rfl)
theorem dX5_adds_65 : decode cX5_adds 65 = .ok (.iconst 1, 1) := fo_4 (fw_get da_cX5_adds_1 19 rfl)
def dt_cX5_adds_2 : List (Nat × Nat × Nat × Nat) := [(66, 96, 0, 0), (67, 181, 2, 87), (70, 177, 0, 0)]
theorem da_cX5_adds_2 : fw dt_cX5_adds_2 0 cX5_adds.data.toList = true := by decide +kernel
theorem dX5_adds_66 : decode cX5_adds 66 = .ok (.iadd, 1) := fo_96 (fw_get da_cX5_adds_2 0 rfl)
theorem dX5_adds_67 : decode cX5_adds 67 = .ok (.putfield 87, 3) := fo_181 (fw_get da_cX5_adds_2 1 rfl)
theorem dX5_adds_70 : decode cX5_adds 70 = .ok (.return_, 1) := fo_177 (fw_get da_cX5_adds_2 2 rfl)
def dt_cX5_isAhead_0 : List (Nat × Nat × Nat × Nat) := [(0, 42, 0, 0), (1, 180, 2, 35), (4, 27, 0, 0), (5, 46, 0, 0), (6, 42, 0, 0), (7, 180, 2, 35), (10, 28, 0, 0), (11, 46, 0, 0), (12, 159, 2, 26), (15, 42, 0, 0), (16, 180, 2, 35), (19, 27, 0, 0), (20, 46, 0, 0), (21, 42, 0, 0), (22, 180, 2, 35), (25, 28, 0, 0), (26, 46, 0, 0), (27, 164, 2, 7), (30, 4, 0, 0), (31, 167, 2, 27)]
theorem da_cX5_isAhead_0 : fw dt_cX5_isAhead_0 0 cX5_isAhead.data.toList = true := by decide +kernel
theorem dX5_isAhead_0 : decode cX5_isAhead 0 = .ok (.aload_n 0, 1) := fo_42 (fw_get da_cX5_isAhead_0 0 rfl)
theorem dX5_isAhead_1 : decode cX5_isAhead 1 = .ok (.getfield 35, 3) := fo_180 (fw_get da_cX5_isAhead_0 1 rfl)
theorem dX5_isAhead_4 : decode cX5_isAhead 4 = .ok (.iload_n 1, 1) := fo_27 (fw_get da_cX5_isAhead_0 2 rfl)
theorem dX5_isAhead_5 : decode cX5_isAhead 5 = .ok (.iaload, 1) := fo_46 (fw_get da_cX5_isAhead_0 3 rfl)
theorem dX5_isAhead_6 : decode cX5_isAhead 6 = .ok (.aload_n 0, 1) := fo_42 (fw_get da_cX5_isAhead_0 4 rfl)
theorem dX5_isAhead_7 : decode cX5_isAhead 7 = .ok (.getfield 35, 3) := fo_180 (fw_get da_cX5_isAhead_0 5 rfl)
theorem dX5_isAhead_10 : decode cX5_isAhead 10 = .ok (.iload_n 2, 1) := fo_28 (fw_get da_cX5_isAhead_0 6 rfl)
theorem dX5_isAhead_11 : decode cX5_isAhead 11 = .ok (.iaload, 1) := fo_46 (fw_get da_cX5_isAhead_0 7 rfl)
theorem dX5_isAhead_12 : decode cX5_isAhead 12 = .ok (.if_icmp .eq 26, 3) := fo_159 (fw_get da_cX5_isAhead_0 8 rfl) (by decide +kernel)
theorem dX5_isAhead_15 : decode cX5_isAhead 15 = .ok (.aload_n 0, 1) := fo_42 (fw_get da_cX5_isAhead_0 9 rfl)
theorem dX5_isAhead_16 : decode cX5_isAhead 16 = .ok (.getfield 35, 3) := fo_180 (fw_get da_cX5_isAhead_0 10 rfl)
theorem dX5_isAhead_19 : decode cX5_isAhead 19 = .ok (.iload_n 1, 1) := fo_27 (fw_get da_cX5_isAhead_0 11 rfl)
theorem dX5_isAhead_20 : decode cX5_isAhead 20 = .ok (.iaload, 1) := fo_46 (fw_get da_cX5_isAhead_0 12 rfl)
theorem dX5_isAhead_21 : decode cX5_isAhead 21 = .ok (.aload_n 0, 1) := fo_42 (fw_get da_cX5_isAhead_0 13 rfl)
theorem dX5_isAhead_22 : decode cX5_isAhead 22 = .ok (.getfield 35, 3) := fo_180 (fw_get da_cX5_isAhead_0 14 rfl)
theorem dX5_isAhead_25 : decode cX5_isAhead 25 = .ok (.iload_n 2, 1) := fo_28 (fw_get da_cX5_isAhead_0 15 rfl)
theorem dX5_isAhead_26 : decode cX5_isAhead 26 = .ok (.iaload, 1) := fo_46 (fw_get da_cX5_isAhead_0 16 rfl)
theorem dX5_isAhead_27 : decode cX5_isAhead 27 = .ok (.if_icmp .le 7, 3) := fo_164 (fw_get da_cX5_isAhead_0 17 rfl) (by decide +kernel)
theorem dX5_isAhead_30 : decode cX5_isAhead 30 = .ok (.iconst 1, 1) := fo_4 (fw_get da_cX5_isAhead_0 18 rfl)
theorem dX5_isAhead_31 : decode cX5_isAhead 31 = .ok (.goto 27, 3) := fo_167 (fw_get da_cX5_isAhead_0 19 rfl) (by decide +kernel)
def dt_cX5_isAhead_1 : List (Nat × Nat × Nat × Nat) := [(34, 3, 0, 0), (35, 167, 2, 23), (38, 42, 0, 0), (39, 180, 2, 32), (42, 27, 0, 0), (43, 46, 0, 0), (44, 42, 0, 0), (45, 180, 2, 32), (48, 28, 0, 0), (49, 46, 0, 0), (50, 162, 2, 7), (53, 4, 0, 0), (54, 167, 2, 4), (57, 3, 0, 0), (58, 172, 0, 0)]
theorem da_cX5_isAhead_1 : fw dt_cX5_isAhead_1 0 cX5_isAhead.data.toList = true := by decide +kernel
theorem dX5_isAhead_34 : decode cX5_isAhead 34 = .ok (.iconst 0, 1) := fo_3 (fw_get da_cX5_isAhead_1 0 rfl)
theorem dX5_isAhead_35 : decode cX5_isAhead 35 = .ok (.goto 23, 3) := fo_167 (fw_get da_cX5_isAhead_1 1 rfl) (by decide +kernel)
theorem dX5_isAhead_38 : decode cX5_isAhead 38 = .ok (.aload_n 0, 1) := fo_42 (fw_get da_cX5_isAhead_1 2 rfl)
theorem dX5_isAhead_39 : decode cX5_isAhead 39 = .ok (.getfield 32, 3) := fo_180 (fw_get da_cX5_isAhead_1 3 rfl)
theorem dX5_isAhead_42 : decode cX5_isAhead 42 = .ok (.iload_n 1, 1) := fo_27 (fw_get da_cX5_isAhead_1 4 rfl)
theorem dX5_isAhead_43 : decode cX5_isAhead 43 = .ok (.iaload, 1) := fo_46 (fw_get da_cX5_isAhead_1 5 rfl)
theorem dX5_isAhead_44 : decode cX5_isAhead 44 = .ok (.aload_n 0, 1) := fo_42 (fw_get da_cX5_isAhead_1 6 rfl)
theorem dX5_isAhead_45 : decode cX5_isAhead 45 = .ok (.getfield 32, 3) := fo_180 (fw_get da_cX5_isAhead_1 7 rfl)
theorem dX5_isAhead_48 : decode cX5_isAhead 48 = .ok (.iload_n 2, 1) := fo_28 (fw_get da_cX5_isAhead_1 8 rfl)
theorem dX5_isAhead_49 : decode cX5_isAhead 49 = .ok (.iaload, 1) := fo_46 (fw_get da_cX5_isAhead_1 9 rfl)
theorem dX5_isAhead_50 : decode cX5_isAhead 50 = .ok (.if_icmp .ge 7, 3) := fo_162 (fw_get da_cX5_isAhead_1 10 rfl) (by decide +kernel)
theorem dX5_isAhead_53 : decode cX5_isAhead 53 = .ok (.iconst 1, 1) := fo_4 (fw_get da_cX5_isAhead_1 11 rfl)
theorem dX5_isAhead_54 : decode cX5_isAhead 54 = .ok (.goto 4, 3) := fo_167 (fw_get da_cX5_isAhead_1 12 rfl) (by decide +kernel)
theorem dX5_isAhead_57 : decode cX5_isAhead 57 = .ok (.iconst 0, 1) := fo_3 (fw_get da_cX5_isAhead_1 13 rfl)
theorem dX5_isAhead_58 : decode cX5_isAhead 58 = .ok (.ireturn, 1) := fo_172 (fw_get da_cX5_isAhead_1 14 rfl)
def dt_cX5_nodeOf_0 : List (Nat × Nat × Nat × Nat) := [(0, 3, 0, 0), (1, 62, 0, 0), (2, 29, 0, 0), (3, 42, 0, 0), (4, 180, 2, 101), (7, 162, 2, 31), (10, 42, 0, 0), (11, 180, 2, 38), (14, 29, 0, 0), (15, 46, 0, 0), (16, 27, 0, 0), (17, 160, 2, 15), (20, 42, 0, 0), (21, 180, 2, 41), (24, 29, 0, 0), (25, 46, 0, 0), (26, 28, 0, 0), (27, 160, 2, 5), (30, 29, 0, 0), (31, 172, 0, 0)]
theorem da_cX5_nodeOf_0 : fw dt_cX5_nodeOf_0 0 cX5_nodeOf.data.toList = true := by decide +kernel
theorem dX5_nodeOf_0 : decode cX5_nodeOf 0 = .ok (.iconst 0, 1) := fo_3 (fw_get da_cX5_nodeOf_0 0 rfl)
theorem dX5_nodeOf_1 : decode cX5_nodeOf 1 = .ok (.istore_n 3, 1) := fo_62 (fw_get da_cX5_nodeOf_0 1 rfl)
theorem dX5_nodeOf_2 : decode cX5_nodeOf 2 = .ok (.iload_n 3, 1) := fo_29 (fw_get da_cX5_nodeOf_0 2 rfl)
theorem dX5_nodeOf_3 : decode cX5_nodeOf 3 = .ok (.aload_n 0, 1) := fo_42 (fw_get da_cX5_nodeOf_0 3 rfl)
theorem dX5_nodeOf_4 : decode cX5_nodeOf 4 = .ok (.getfield 101, 3) := fo_180 (fw_get da_cX5_nodeOf_0 4 rfl)
theorem dX5_nodeOf_7 : decode cX5_nodeOf 7 = .ok (.if_icmp .ge 31, 3) := fo_162 (fw_get da_cX5_nodeOf_0 5 rfl) (by decide +kernel)
theorem dX5_nodeOf_10 : decode cX5_nodeOf 10 = .ok (.aload_n 0, 1) := fo_42 (fw_get da_cX5_nodeOf_0 6 rfl)
theorem dX5_nodeOf_11 : decode cX5_nodeOf 11 = .ok (.getfield 38, 3) := fo_180 (fw_get da_cX5_nodeOf_0 7 rfl)
theorem dX5_nodeOf_14 : decode cX5_nodeOf 14 = .ok (.iload_n 3, 1) := fo_29 (fw_get da_cX5_nodeOf_0 8 rfl)
theorem dX5_nodeOf_15 : decode cX5_nodeOf 15 = .ok (.iaload, 1) := fo_46 (fw_get da_cX5_nodeOf_0 9 rfl)
theorem dX5_nodeOf_16 : decode cX5_nodeOf 16 = .ok (.iload_n 1, 1) := fo_27 (fw_get da_cX5_nodeOf_0 10 rfl)
theorem dX5_nodeOf_17 : decode cX5_nodeOf 17 = .ok (.if_icmp .ne 15, 3) := fo_160 (fw_get da_cX5_nodeOf_0 11 rfl) (by decide +kernel)
theorem dX5_nodeOf_20 : decode cX5_nodeOf 20 = .ok (.aload_n 0, 1) := fo_42 (fw_get da_cX5_nodeOf_0 12 rfl)
theorem dX5_nodeOf_21 : decode cX5_nodeOf 21 = .ok (.getfield 41, 3) := fo_180 (fw_get da_cX5_nodeOf_0 13 rfl)
theorem dX5_nodeOf_24 : decode cX5_nodeOf 24 = .ok (.iload_n 3, 1) := fo_29 (fw_get da_cX5_nodeOf_0 14 rfl)
theorem dX5_nodeOf_25 : decode cX5_nodeOf 25 = .ok (.iaload, 1) := fo_46 (fw_get da_cX5_nodeOf_0 15 rfl)
theorem dX5_nodeOf_26 : decode cX5_nodeOf 26 = .ok (.iload_n 2, 1) := fo_28 (fw_get da_cX5_nodeOf_0 16 rfl)
theorem dX5_nodeOf_27 : decode cX5_nodeOf 27 = .ok (.if_icmp .ne 5, 3) := fo_160 (fw_get da_cX5_nodeOf_0 17 rfl) (by decide +kernel)
theorem dX5_nodeOf_30 : decode cX5_nodeOf 30 = .ok (.iload_n 3, 1) := fo_29 (fw_get da_cX5_nodeOf_0 18 rfl)
theorem dX5_nodeOf_31 : decode cX5_nodeOf 31 = .ok (.ireturn, 1) := fo_172 (fw_get da_cX5_nodeOf_0 19 rfl)
def dt_cX5_nodeOf_1 : List (Nat × Nat × Nat × Nat) := [(32, 132, 2, 769), (35, 167, 2, 65503), (38, 16, 1, 254), (40, 172, 0, 0)]
theorem da_cX5_nodeOf_1 : fw dt_cX5_nodeOf_1 0 cX5_nodeOf.data.toList = true := by decide +kernel
theorem dX5_nodeOf_32 : decode cX5_nodeOf 32 = .ok (.iinc 3 1, 3) := fo_132 (fw_get da_cX5_nodeOf_1 0 rfl) rfl (by decide +kernel)
theorem dX5_nodeOf_35 : decode cX5_nodeOf 35 = .ok (.goto (-33), 3) := fo_167 (fw_get da_cX5_nodeOf_1 1 rfl) (by decide +kernel)
theorem dX5_nodeOf_38 : decode cX5_nodeOf 38 = .ok (.bipush (-2), 2) := fo_16 (fw_get da_cX5_nodeOf_1 2 rfl) (by decide +kernel)
theorem dX5_nodeOf_40 : decode cX5_nodeOf 40 = .ok (.ireturn, 1) := fo_172 (fw_get da_cX5_nodeOf_1 3 rfl)
def dt_cX5_copies_0 : List (Nat × Nat × Nat × Nat) := [(0, 42, 0, 0), (1, 180, 2, 17), (4, 28, 0, 0), (5, 42, 0, 0), (6, 180, 2, 17), (9, 27, 0, 0), (10, 46, 0, 0), (11, 79, 0, 0), (12, 42, 0, 0), (13, 180, 2, 20), (16, 28, 0, 0), (17, 42, 0, 0), (18, 180, 2, 20), (21, 27, 0, 0), (22, 46, 0, 0), (23, 79, 0, 0), (24, 42, 0, 0), (25, 180, 2, 23), (28, 28, 0, 0), (29, 42, 0, 0)]
theorem da_cX5_copies_0 : fw dt_cX5_copies_0 0 cX5_copies.data.toList = true := by decide +kernel
theorem dX5_copies_0 : decode cX5_copies 0 = .ok (.aload_n 0, 1) := fo_42 (fw_get da_cX5_copies_0 0 rfl)
theorem dX5_copies_1 : decode cX5_copies 1 = .ok (.getfield 17, 3) := fo_180 (fw_get da_cX5_copies_0 1 rfl)
theorem dX5_copies_4 : decode cX5_copies 4 = .ok (.iload_n 2, 1) := fo_28 (fw_get da_cX5_copies_0 2 rfl)
theorem dX5_copies_5 : decode cX5_copies 5 = .ok (.aload_n 0, 1) := fo_42 (fw_get da_cX5_copies_0 3 rfl)
theorem dX5_copies_6 : decode cX5_copies 6 = .ok (.getfield 17, 3) := fo_180 (fw_get da_cX5_copies_0 4 rfl)
theorem dX5_copies_9 : decode cX5_copies 9 = .ok (.iload_n 1, 1) := fo_27 (fw_get da_cX5_copies_0 5 rfl)
theorem dX5_copies_10 : decode cX5_copies 10 = .ok (.iaload, 1) := fo_46 (fw_get da_cX5_copies_0 6 rfl)
theorem dX5_copies_11 : decode cX5_copies 11 = .ok (.iastore, 1) := fo_79 (fw_get da_cX5_copies_0 7 rfl)
theorem dX5_copies_12 : decode cX5_copies 12 = .ok (.aload_n 0, 1) := fo_42 (fw_get da_cX5_copies_0 8 rfl)
theorem dX5_copies_13 : decode cX5_copies 13 = .ok (.getfield 20, 3) := fo_180 (fw_get da_cX5_copies_0 9 rfl)
theorem dX5_copies_16 : decode cX5_copies 16 = .ok (.iload_n 2, 1) := fo_28 (fw_get da_cX5_copies_0 10 rfl)
theorem dX5_copies_17 : decode cX5_copies 17 = .ok (.aload_n 0, 1) := fo_42 (fw_get da_cX5_copies_0 11 rfl)
theorem dX5_copies_18 : decode cX5_copies 18 = .ok (.getfield 20, 3) := fo_180 (fw_get da_cX5_copies_0 12 rfl)
theorem dX5_copies_21 : decode cX5_copies 21 = .ok (.iload_n 1, 1) := fo_27 (fw_get da_cX5_copies_0 13 rfl)
theorem dX5_copies_22 : decode cX5_copies 22 = .ok (.iaload, 1) := fo_46 (fw_get da_cX5_copies_0 14 rfl)
theorem dX5_copies_23 : decode cX5_copies 23 = .ok (.iastore, 1) := fo_79 (fw_get da_cX5_copies_0 15 rfl)
theorem dX5_copies_24 : decode cX5_copies 24 = .ok (.aload_n 0, 1) := fo_42 (fw_get da_cX5_copies_0 16 rfl)
theorem dX5_copies_25 : decode cX5_copies 25 = .ok (.getfield 23, 3) := fo_180 (fw_get da_cX5_copies_0 17 rfl)
theorem dX5_copies_28 : decode cX5_copies 28 = .ok (.iload_n 2, 1) := fo_28 (fw_get da_cX5_copies_0 18 rfl)
theorem dX5_copies_29 : decode cX5_copies 29 = .ok (.aload_n 0, 1) := fo_42 (fw_get da_cX5_copies_0 19 rfl)
def dt_cX5_copies_1 : List (Nat × Nat × Nat × Nat) := [(30, 180, 2, 23), (33, 27, 0, 0), (34, 46, 0, 0), (35, 79, 0, 0), (36, 3, 0, 0), (37, 62, 0, 0), (38, 29, 0, 0), (39, 16, 1, 6), (41, 162, 2, 53), (44, 42, 0, 0), (45, 180, 2, 26), (48, 16, 1, 6), (50, 28, 0, 0), (51, 104, 0, 0), (52, 29, 0, 0), (53, 96, 0, 0), (54, 42, 0, 0), (55, 180, 2, 26), (58, 16, 1, 6), (60, 27, 0, 0)]
theorem da_cX5_copies_1 : fw dt_cX5_copies_1 0 cX5_copies.data.toList = true := by decide +kernel
theorem dX5_copies_30 : decode cX5_copies 30 = .ok (.getfield 23, 3) := fo_180 (fw_get da_cX5_copies_1 0 rfl)
theorem dX5_copies_33 : decode cX5_copies 33 = .ok (.iload_n 1, 1) := fo_27 (fw_get da_cX5_copies_1 1 rfl)
theorem dX5_copies_34 : decode cX5_copies 34 = .ok (.iaload, 1) := fo_46 (fw_get da_cX5_copies_1 2 rfl)
theorem dX5_copies_35 : decode cX5_copies 35 = .ok (.iastore, 1) := fo_79 (fw_get da_cX5_copies_1 3 rfl)
theorem dX5_copies_36 : decode cX5_copies 36 = .ok (.iconst 0, 1) := fo_3 (fw_get da_cX5_copies_1 4 rfl)
theorem dX5_copies_37 : decode cX5_copies 37 = .ok (.istore_n 3, 1) := fo_62 (fw_get da_cX5_copies_1 5 rfl)
theorem dX5_copies_38 : decode cX5_copies 38 = .ok (.iload_n 3, 1) := fo_29 (fw_get da_cX5_copies_1 6 rfl)
theorem dX5_copies_39 : decode cX5_copies 39 = .ok (.bipush 6, 2) := fo_16 (fw_get da_cX5_copies_1 7 rfl) (by decide +kernel)
theorem dX5_copies_41 : decode cX5_copies 41 = .ok (.if_icmp .ge 53, 3) := fo_162 (fw_get da_cX5_copies_1 8 rfl) (by decide +kernel)
theorem dX5_copies_44 : decode cX5_copies 44 = .ok (.aload_n 0, 1) := fo_42 (fw_get da_cX5_copies_1 9 rfl)
theorem dX5_copies_45 : decode cX5_copies 45 = .ok (.getfield 26, 3) := fo_180 (fw_get da_cX5_copies_1 10 rfl)
theorem dX5_copies_48 : decode cX5_copies 48 = .ok (.bipush 6, 2) := fo_16 (fw_get da_cX5_copies_1 11 rfl) (by decide +kernel)
theorem dX5_copies_50 : decode cX5_copies 50 = .ok (.iload_n 2, 1) := fo_28 (fw_get da_cX5_copies_1 12 rfl)
theorem dX5_copies_51 : decode cX5_copies 51 = .ok (.imul, 1) := fo_104 (fw_get da_cX5_copies_1 13 rfl)
theorem dX5_copies_52 : decode cX5_copies 52 = .ok (.iload_n 3, 1) := fo_29 (fw_get da_cX5_copies_1 14 rfl)
theorem dX5_copies_53 : decode cX5_copies 53 = .ok (.iadd, 1) := fo_96 (fw_get da_cX5_copies_1 15 rfl)
theorem dX5_copies_54 : decode cX5_copies 54 = .ok (.aload_n 0, 1) := fo_42 (fw_get da_cX5_copies_1 16 rfl)
theorem dX5_copies_55 : decode cX5_copies 55 = .ok (.getfield 26, 3) := fo_180 (fw_get da_cX5_copies_1 17 rfl)
theorem dX5_copies_58 : decode cX5_copies 58 = .ok (.bipush 6, 2) := fo_16 (fw_get da_cX5_copies_1 18 rfl) (by decide +kernel)
theorem dX5_copies_60 : decode cX5_copies 60 = .ok (.iload_n 1, 1) := fo_27 (fw_get da_cX5_copies_1 19 rfl)
def dt_cX5_copies_2 : List (Nat × Nat × Nat × Nat) := [(61, 104, 0, 0), (62, 29, 0, 0), (63, 96, 0, 0), (64, 46, 0, 0), (65, 79, 0, 0), (66, 42, 0, 0), (67, 180, 2, 29), (70, 16, 1, 6), (72, 28, 0, 0), (73, 104, 0, 0), (74, 29, 0, 0), (75, 96, 0, 0), (76, 42, 0, 0), (77, 180, 2, 29), (80, 16, 1, 6), (82, 27, 0, 0), (83, 104, 0, 0), (84, 29, 0, 0), (85, 96, 0, 0), (86, 46, 0, 0)]
theorem da_cX5_copies_2 : fw dt_cX5_copies_2 0 cX5_copies.data.toList = true := by decide +kernel
theorem dX5_copies_61 : decode cX5_copies 61 = .ok (.imul, 1) := fo_104 (fw_get da_cX5_copies_2 0 rfl)
theorem dX5_copies_62 : decode cX5_copies 62 = .ok (.iload_n 3, 1) := fo_29 (fw_get da_cX5_copies_2 1 rfl)
theorem dX5_copies_63 : decode cX5_copies 63 = .ok (.iadd, 1) := fo_96 (fw_get da_cX5_copies_2 2 rfl)
theorem dX5_copies_64 : decode cX5_copies 64 = .ok (.iaload, 1) := fo_46 (fw_get da_cX5_copies_2 3 rfl)
theorem dX5_copies_65 : decode cX5_copies 65 = .ok (.iastore, 1) := fo_79 (fw_get da_cX5_copies_2 4 rfl)
theorem dX5_copies_66 : decode cX5_copies 66 = .ok (.aload_n 0, 1) := fo_42 (fw_get da_cX5_copies_2 5 rfl)
theorem dX5_copies_67 : decode cX5_copies 67 = .ok (.getfield 29, 3) := fo_180 (fw_get da_cX5_copies_2 6 rfl)
theorem dX5_copies_70 : decode cX5_copies 70 = .ok (.bipush 6, 2) := fo_16 (fw_get da_cX5_copies_2 7 rfl) (by decide +kernel)
theorem dX5_copies_72 : decode cX5_copies 72 = .ok (.iload_n 2, 1) := fo_28 (fw_get da_cX5_copies_2 8 rfl)
theorem dX5_copies_73 : decode cX5_copies 73 = .ok (.imul, 1) := fo_104 (fw_get da_cX5_copies_2 9 rfl)
theorem dX5_copies_74 : decode cX5_copies 74 = .ok (.iload_n 3, 1) := fo_29 (fw_get da_cX5_copies_2 10 rfl)
theorem dX5_copies_75 : decode cX5_copies 75 = .ok (.iadd, 1) := fo_96 (fw_get da_cX5_copies_2 11 rfl)
theorem dX5_copies_76 : decode cX5_copies 76 = .ok (.aload_n 0, 1) := fo_42 (fw_get da_cX5_copies_2 12 rfl)
theorem dX5_copies_77 : decode cX5_copies 77 = .ok (.getfield 29, 3) := fo_180 (fw_get da_cX5_copies_2 13 rfl)
theorem dX5_copies_80 : decode cX5_copies 80 = .ok (.bipush 6, 2) := fo_16 (fw_get da_cX5_copies_2 14 rfl) (by decide +kernel)
theorem dX5_copies_82 : decode cX5_copies 82 = .ok (.iload_n 1, 1) := fo_27 (fw_get da_cX5_copies_2 15 rfl)
theorem dX5_copies_83 : decode cX5_copies 83 = .ok (.imul, 1) := fo_104 (fw_get da_cX5_copies_2 16 rfl)
theorem dX5_copies_84 : decode cX5_copies 84 = .ok (.iload_n 3, 1) := fo_29 (fw_get da_cX5_copies_2 17 rfl)
theorem dX5_copies_85 : decode cX5_copies 85 = .ok (.iadd, 1) := fo_96 (fw_get da_cX5_copies_2 18 rfl)
theorem dX5_copies_86 : decode cX5_copies 86 = .ok (.iaload, 1) := fo_46 (fw_get da_cX5_copies_2 19 rfl)
def dt_cX5_copies_3 : List (Nat × Nat × Nat × Nat) := [(87, 79, 0, 0), (88, 132, 2, 769), (91, 167, 2, 65483), (94, 177, 0, 0)]
theorem da_cX5_copies_3 : fw dt_cX5_copies_3 0 cX5_copies.data.toList = true := by decide +kernel
theorem dX5_copies_87 : decode cX5_copies 87 = .ok (.iastore, 1) := fo_79 (fw_get da_cX5_copies_3 0 rfl)
theorem dX5_copies_88 : decode cX5_copies 88 = .ok (.iinc 3 1, 3) := fo_132 (fw_get da_cX5_copies_3 1 rfl) rfl (by decide +kernel)
theorem dX5_copies_91 : decode cX5_copies 91 = .ok (.goto (-53), 3) := fo_167 (fw_get da_cX5_copies_3 2 rfl) (by decide +kernel)
theorem dX5_copies_94 : decode cX5_copies 94 = .ok (.return_, 1) := fo_177 (fw_get da_cX5_copies_3 3 rfl)
def dt_cX5_numberOf_0 : List (Nat × Nat × Nat × Nat) := [(0, 3, 0, 0), (1, 62, 0, 0), (2, 29, 0, 0), (3, 42, 0, 0), (4, 180, 2, 17), (7, 27, 0, 0), (8, 46, 0, 0), (9, 162, 2, 36), (12, 42, 0, 0), (13, 180, 2, 26), (16, 16, 1, 6), (18, 27, 0, 0), (19, 104, 0, 0), (20, 29, 0, 0), (21, 96, 0, 0), (22, 46, 0, 0), (23, 28, 0, 0), (24, 160, 2, 15), (27, 42, 0, 0), (28, 180, 2, 29)]
theorem da_cX5_numberOf_0 : fw dt_cX5_numberOf_0 0 cX5_numberOf.data.toList = true := by decide +kernel
theorem dX5_numberOf_0 : decode cX5_numberOf 0 = .ok (.iconst 0, 1) := fo_3 (fw_get da_cX5_numberOf_0 0 rfl)
theorem dX5_numberOf_1 : decode cX5_numberOf 1 = .ok (.istore_n 3, 1) := fo_62 (fw_get da_cX5_numberOf_0 1 rfl)
theorem dX5_numberOf_2 : decode cX5_numberOf 2 = .ok (.iload_n 3, 1) := fo_29 (fw_get da_cX5_numberOf_0 2 rfl)
theorem dX5_numberOf_3 : decode cX5_numberOf 3 = .ok (.aload_n 0, 1) := fo_42 (fw_get da_cX5_numberOf_0 3 rfl)
theorem dX5_numberOf_4 : decode cX5_numberOf 4 = .ok (.getfield 17, 3) := fo_180 (fw_get da_cX5_numberOf_0 4 rfl)
theorem dX5_numberOf_7 : decode cX5_numberOf 7 = .ok (.iload_n 1, 1) := fo_27 (fw_get da_cX5_numberOf_0 5 rfl)
theorem dX5_numberOf_8 : decode cX5_numberOf 8 = .ok (.iaload, 1) := fo_46 (fw_get da_cX5_numberOf_0 6 rfl)
theorem dX5_numberOf_9 : decode cX5_numberOf 9 = .ok (.if_icmp .ge 36, 3) := fo_162 (fw_get da_cX5_numberOf_0 7 rfl) (by decide +kernel)
theorem dX5_numberOf_12 : decode cX5_numberOf 12 = .ok (.aload_n 0, 1) := fo_42 (fw_get da_cX5_numberOf_0 8 rfl)
theorem dX5_numberOf_13 : decode cX5_numberOf 13 = .ok (.getfield 26, 3) := fo_180 (fw_get da_cX5_numberOf_0 9 rfl)
theorem dX5_numberOf_16 : decode cX5_numberOf 16 = .ok (.bipush 6, 2) := fo_16 (fw_get da_cX5_numberOf_0 10 rfl) (by decide +kernel)
theorem dX5_numberOf_18 : decode cX5_numberOf 18 = .ok (.iload_n 1, 1) := fo_27 (fw_get da_cX5_numberOf_0 11 rfl)
theorem dX5_numberOf_19 : decode cX5_numberOf 19 = .ok (.imul, 1) := fo_104 (fw_get da_cX5_numberOf_0 12 rfl)
theorem dX5_numberOf_20 : decode cX5_numberOf 20 = .ok (.iload_n 3, 1) := fo_29 (fw_get da_cX5_numberOf_0 13 rfl)
theorem dX5_numberOf_21 : decode cX5_numberOf 21 = .ok (.iadd, 1) := fo_96 (fw_get da_cX5_numberOf_0 14 rfl)
theorem dX5_numberOf_22 : decode cX5_numberOf 22 = .ok (.iaload, 1) := fo_46 (fw_get da_cX5_numberOf_0 15 rfl)
theorem dX5_numberOf_23 : decode cX5_numberOf 23 = .ok (.iload_n 2, 1) := fo_28 (fw_get da_cX5_numberOf_0 16 rfl)
theorem dX5_numberOf_24 : decode cX5_numberOf 24 = .ok (.if_icmp .ne 15, 3) := fo_160 (fw_get da_cX5_numberOf_0 17 rfl) (by decide +kernel)
theorem dX5_numberOf_27 : decode cX5_numberOf 27 = .ok (.aload_n 0, 1) := fo_42 (fw_get da_cX5_numberOf_0 18 rfl)
theorem dX5_numberOf_28 : decode cX5_numberOf 28 = .ok (.getfield 29, 3) := fo_180 (fw_get da_cX5_numberOf_0 19 rfl)
def dt_cX5_numberOf_1 : List (Nat × Nat × Nat × Nat) := [(31, 16, 1, 6), (33, 27, 0, 0), (34, 104, 0, 0), (35, 29, 0, 0), (36, 96, 0, 0), (37, 46, 0, 0), (38, 172, 0, 0), (39, 132, 2, 769), (42, 167, 2, 65496), (45, 3, 0, 0), (46, 172, 0, 0)]
theorem da_cX5_numberOf_1 : fw dt_cX5_numberOf_1 0 cX5_numberOf.data.toList = true := by decide +kernel
theorem dX5_numberOf_31 : decode cX5_numberOf 31 = .ok (.bipush 6, 2) := fo_16 (fw_get da_cX5_numberOf_1 0 rfl) (by decide +kernel)
theorem dX5_numberOf_33 : decode cX5_numberOf 33 = .ok (.iload_n 1, 1) := fo_27 (fw_get da_cX5_numberOf_1 1 rfl)
theorem dX5_numberOf_34 : decode cX5_numberOf 34 = .ok (.imul, 1) := fo_104 (fw_get da_cX5_numberOf_1 2 rfl)
theorem dX5_numberOf_35 : decode cX5_numberOf 35 = .ok (.iload_n 3, 1) := fo_29 (fw_get da_cX5_numberOf_1 3 rfl)
theorem dX5_numberOf_36 : decode cX5_numberOf 36 = .ok (.iadd, 1) := fo_96 (fw_get da_cX5_numberOf_1 4 rfl)
theorem dX5_numberOf_37 : decode cX5_numberOf 37 = .ok (.iaload, 1) := fo_46 (fw_get da_cX5_numberOf_1 5 rfl)
theorem dX5_numberOf_38 : decode cX5_numberOf 38 = .ok (.ireturn, 1) := fo_172 (fw_get da_cX5_numberOf_1 6 rfl)
theorem dX5_numberOf_39 : decode cX5_numberOf 39 = .ok (.iinc 3 1, 3) := fo_132 (fw_get da_cX5_numberOf_1 7 rfl) rfl (by decide +kernel)
theorem dX5_numberOf_42 : decode cX5_numberOf 42 = .ok (.goto (-40), 3) := fo_167 (fw_get da_cX5_numberOf_1 8 rfl) (by decide +kernel)
theorem dX5_numberOf_45 : decode cX5_numberOf 45 = .ok (.iconst 0, 1) := fo_3 (fw_get da_cX5_numberOf_1 9 rfl)
theorem dX5_numberOf_46 : decode cX5_numberOf 46 = .ok (.ireturn, 1) := fo_172 (fw_get da_cX5_numberOf_1 10 rfl)
def dt_cX5_numbersOf_0 : List (Nat × Nat × Nat × Nat) := [(0, 3, 0, 0), (1, 61, 0, 0), (2, 3, 0, 0), (3, 62, 0, 0), (4, 29, 0, 0), (5, 42, 0, 0), (6, 180, 2, 17), (9, 27, 0, 0), (10, 46, 0, 0), (11, 162, 2, 23), (14, 28, 0, 0), (15, 42, 0, 0), (16, 180, 2, 29), (19, 16, 1, 6), (21, 27, 0, 0), (22, 104, 0, 0), (23, 29, 0, 0), (24, 96, 0, 0), (25, 46, 0, 0), (26, 96, 0, 0)]
theorem da_cX5_numbersOf_0 : fw dt_cX5_numbersOf_0 0 cX5_numbersOf.data.toList = true := by decide +kernel
theorem dX5_numbersOf_0 : decode cX5_numbersOf 0 = .ok (.iconst 0, 1) := fo_3 (fw_get da_cX5_numbersOf_0 0 rfl)
theorem dX5_numbersOf_1 : decode cX5_numbersOf 1 = .ok (.istore_n 2, 1) := fo_61 (fw_get da_cX5_numbersOf_0 1 rfl)
theorem dX5_numbersOf_2 : decode cX5_numbersOf 2 = .ok (.iconst 0, 1) := fo_3 (fw_get da_cX5_numbersOf_0 2 rfl)
theorem dX5_numbersOf_3 : decode cX5_numbersOf 3 = .ok (.istore_n 3, 1) := fo_62 (fw_get da_cX5_numbersOf_0 3 rfl)
theorem dX5_numbersOf_4 : decode cX5_numbersOf 4 = .ok (.iload_n 3, 1) := fo_29 (fw_get da_cX5_numbersOf_0 4 rfl)
theorem dX5_numbersOf_5 : decode cX5_numbersOf 5 = .ok (.aload_n 0, 1) := fo_42 (fw_get da_cX5_numbersOf_0 5 rfl)
theorem dX5_numbersOf_6 : decode cX5_numbersOf 6 = .ok (.getfield 17, 3) := fo_180 (fw_get da_cX5_numbersOf_0 6 rfl)
theorem dX5_numbersOf_9 : decode cX5_numbersOf 9 = .ok (.iload_n 1, 1) := fo_27 (fw_get da_cX5_numbersOf_0 7 rfl)
theorem dX5_numbersOf_10 : decode cX5_numbersOf 10 = .ok (.iaload, 1) := fo_46 (fw_get da_cX5_numbersOf_0 8 rfl)
theorem dX5_numbersOf_11 : decode cX5_numbersOf 11 = .ok (.if_icmp .ge 23, 3) := fo_162 (fw_get da_cX5_numbersOf_0 9 rfl) (by decide +kernel)
theorem dX5_numbersOf_14 : decode cX5_numbersOf 14 = .ok (.iload_n 2, 1) := fo_28 (fw_get da_cX5_numbersOf_0 10 rfl)
theorem dX5_numbersOf_15 : decode cX5_numbersOf 15 = .ok (.aload_n 0, 1) := fo_42 (fw_get da_cX5_numbersOf_0 11 rfl)
theorem dX5_numbersOf_16 : decode cX5_numbersOf 16 = .ok (.getfield 29, 3) := fo_180 (fw_get da_cX5_numbersOf_0 12 rfl)
theorem dX5_numbersOf_19 : decode cX5_numbersOf 19 = .ok (.bipush 6, 2) := fo_16 (fw_get da_cX5_numbersOf_0 13 rfl) (by decide +kernel)
theorem dX5_numbersOf_21 : decode cX5_numbersOf 21 = .ok (.iload_n 1, 1) := fo_27 (fw_get da_cX5_numbersOf_0 14 rfl)
theorem dX5_numbersOf_22 : decode cX5_numbersOf 22 = .ok (.imul, 1) := fo_104 (fw_get da_cX5_numbersOf_0 15 rfl)
theorem dX5_numbersOf_23 : decode cX5_numbersOf 23 = .ok (.iload_n 3, 1) := fo_29 (fw_get da_cX5_numbersOf_0 16 rfl)
theorem dX5_numbersOf_24 : decode cX5_numbersOf 24 = .ok (.iadd, 1) := fo_96 (fw_get da_cX5_numbersOf_0 17 rfl)
theorem dX5_numbersOf_25 : decode cX5_numbersOf 25 = .ok (.iaload, 1) := fo_46 (fw_get da_cX5_numbersOf_0 18 rfl)
theorem dX5_numbersOf_26 : decode cX5_numbersOf 26 = .ok (.iadd, 1) := fo_96 (fw_get da_cX5_numbersOf_0 19 rfl)
def dt_cX5_numbersOf_1 : List (Nat × Nat × Nat × Nat) := [(27, 61, 0, 0), (28, 132, 2, 769), (31, 167, 2, 65509), (34, 28, 0, 0), (35, 172, 0, 0)]
theorem da_cX5_numbersOf_1 : fw dt_cX5_numbersOf_1 0 cX5_numbersOf.data.toList = true := by decide +kernel
theorem dX5_numbersOf_27 : decode cX5_numbersOf 27 = .ok (.istore_n 2, 1) := fo_61 (fw_get da_cX5_numbersOf_1 0 rfl)
theorem dX5_numbersOf_28 : decode cX5_numbersOf 28 = .ok (.iinc 3 1, 3) := fo_132 (fw_get da_cX5_numbersOf_1 1 rfl) rfl (by decide +kernel)
theorem dX5_numbersOf_31 : decode cX5_numbersOf 31 = .ok (.goto (-27), 3) := fo_167 (fw_get da_cX5_numbersOf_1 2 rfl) (by decide +kernel)
theorem dX5_numbersOf_34 : decode cX5_numbersOf 34 = .ok (.iload_n 2, 1) := fo_28 (fw_get da_cX5_numbersOf_1 3 rfl)
theorem dX5_numbersOf_35 : decode cX5_numbersOf 35 = .ok (.ireturn, 1) := fo_172 (fw_get da_cX5_numbersOf_1 4 rfl)


def six4 (f : Nat → Int32) : Prop := ∀ k : Nat, k < 324 → 0 ≤ (f k).toInt ∧ (f k).toInt ≤ 6
theorem six4_upd {f : Nat → Int32} {k : Nat} {x : Int32} (h : six4 f) (h1 : 0 ≤ x.toInt) (h2 : x.toInt ≤ 6) : six4 (upd f k x) := by
  intro j hj
  unfold upd
  split
  · exact ⟨h1, h2⟩
  · exact h j hj

set_option maxHeartbeats 4000000 in
set_option maxRecDepth 100000 in
theorem c_X5_isAhead (l : Launch) (dC : Nat → ClassId) (dI : Nat → Nat → Nat) (h0 : Nat) (g_row : Nat) (g_many : Nat) (g_loss : Nat) (g_less : Nat) (g_voteValue : Nat) (g_voteNumber : Nat) (g_allValue : Nat) (g_allNumber : Nat) (g_nodeL : Nat) (g_nodeR : Nat) (g_part : Nat) (g_wasMany : Nat) (g_wasLoss : Nat) (g_wasValue : Nat) (g_wasNumber : Nat) (g_path : Nat) (g_heavyValue : Nat) (g_heavyTimes : Nat) (g_fewest : Nat) (g_which : Nat) (g_met : Nat) (m_n : Int32) (m_slots : Int32) (m_thrown : Int32) (m_allMany : Int32) (m_nodes : Int32) (m_partMany : Int32) (m_pathMany : Int32) (m_heavyMany : Int32) (m_mostMet : Int32) (cyI : ClassId) (av : Nat → Int32) (an : Nat → Int32) (p0 : Int32) (p1 : Int32) (b0 : 0 ≤ p0.toInt) (b1 : p0.toInt < 12) (b2 : 0 ≤ p1.toInt) (b3 : p1.toInt < 12) : Met l yX5_isAhead wsX5_isAhead ({ frames := 0, cells := 0, slots := 0, locals := 0 }) (va_Pc [.ref h0, .int p0, .int p1] (fun U => va_P (dC, dI) vwCl [kx_5 h0 g_row m_n m_slots m_thrown g_many g_loss g_less g_voteValue g_voteNumber g_allValue g_allNumber m_allMany g_nodeL g_nodeR m_nodes g_part m_partMany g_wasMany g_wasLoss g_wasValue g_wasNumber g_path m_pathMany g_heavyValue g_heavyTimes m_heavyMany g_fewest g_which g_met m_mostMet, kx_a g_allValue cyI 12 av, kx_a g_allNumber cyI 12 an] U.heap ∧ va_K (dC, dI) vwCl [(cyI, .int)] U)) (vp_Si (fun r : Int32 => (r = 1 ∧ ((an p1.toNatClampNeg).toInt < (an p0.toNatClampNeg).toInt ∨ ((an p0.toNatClampNeg).toInt = (an p1.toNatClampNeg).toInt ∧ (av p0.toNatClampNeg).toInt < (av p1.toNatClampNeg).toInt))) ∨ (r = 0 ∧ ((an p0.toNatClampNeg).toInt < (an p1.toNatClampNeg).toInt ∨ ((an p0.toNatClampNeg).toInt = (an p1.toNatClampNeg).toInt ∧ (av p1.toNatClampNeg).toInt ≤ (av p0.toNatClampNeg).toInt))))) 0 0 (fun _ => False) := by
  refine kx_stS (ws := wsX5_isAhead) (cc := cX5_isAhead) (maxL := 3) (ret := (some .boolean)) (by decide) rfl (Nat.le_of_ble_eq_true rfl) ?_
  intro p e s m below meth c ls hx hb hr hlocks hts hown hml hP hK hl
  have hown : s.vm.findClass RX5 = some m.cls := hown
  have hl : lv_has ls 3 [(0, .ref h0), (1, .int p0), (2, .int p1)] := hl
  have hf_35 := hts (.fieldLink RX5 35 "MajorityIndexModel" "allNumber" "[I") (List.mem_of_getElem? (i := 1) rfl)
  have hi_5 : ∀ w ∈ u_ws RX5 TX5 30, w ∈ wsX5_isAhead := fun w h => List.mem_cons_of_mem _ (List.mem_append_right _ h)
  have hf_32 := hts (.fieldLink RX5 32 "MajorityIndexModel" "allValue" "[I") (List.mem_of_getElem? (i := 2) rfl)
  refine lv_aload_n hx hb dX5_isAhead_0 rfl (lv_at hl 0 rfl) ?_
  refine va_get (D := (dC, dI)) (ci := 5) (v := .ref g_allNumber) (C := RX5) (T := TX5) (N := 30) hx hb hts hi_5 hown hK hP 0 rfl rfl 10 (by decide) hf_35 (fun _ h9 => h9) rfl dX5_isAhead_1 ?_
  refine lv_iload_n hx hb dX5_isAhead_4 rfl (lv_at hl 1 rfl) ?_
  refine va_iald hx hb hK hP 2 0 rfl rfl (ki_in (om_10 b0) (om_30 b1)) dX5_isAhead_5 ?_
  refine lv_topi (fun y_1 ey_1 => ?_)
  have j_1 : y_1.toInt = (an p0.toNatClampNeg).toInt := congrArg Int32.toInt ey_1
  refine lv_aload_n hx hb dX5_isAhead_6 rfl (lv_at hl 0 rfl) ?_
  refine va_get (D := (dC, dI)) (ci := 5) (v := .ref g_allNumber) (C := RX5) (T := TX5) (N := 30) hx hb hts hi_5 hown hK hP 0 rfl rfl 10 (by decide) hf_35 (fun _ h9 => h9) rfl dX5_isAhead_7 ?_
  refine lv_iload_n hx hb dX5_isAhead_10 rfl (lv_at hl 2 rfl) ?_
  refine va_iald hx hb hK hP 2 0 rfl rfl (ki_in (om_10 b2) (om_30 b3)) dX5_isAhead_11 ?_
  refine lv_topi (fun y_2 ey_2 => ?_)
  have j_2 : y_2.toInt = (an p1.toNatClampNeg).toInt := congrArg Int32.toInt ey_2
  refine lv_icmp_eq (tgt := 38) hx hb dX5_isAhead_12 (by decide) (fun c_3 => ?_) (fun c_3 => ?_)
  · have i_3 : y_1.toInt = y_2.toInt := kc_eq c_3
    refine lv_aload_n hx hb dX5_isAhead_38 rfl (lv_at hl 0 rfl) ?_
    refine va_get (D := (dC, dI)) (ci := 5) (v := .ref g_allValue) (C := RX5) (T := TX5) (N := 30) hx hb hts hi_5 hown hK hP 0 rfl rfl 9 (by decide) hf_32 (fun _ h9 => h9) rfl dX5_isAhead_39 ?_
    refine lv_iload_n hx hb dX5_isAhead_42 rfl (lv_at hl 1 rfl) ?_
    refine va_iald hx hb hK hP 1 0 rfl rfl (ki_in (om_10 b0) (om_30 b1)) dX5_isAhead_43 ?_
    refine lv_topi (fun y_4 ey_4 => ?_)
    have j_4 : y_4.toInt = (av p0.toNatClampNeg).toInt := congrArg Int32.toInt ey_4
    refine lv_aload_n hx hb dX5_isAhead_44 rfl (lv_at hl 0 rfl) ?_
    refine va_get (D := (dC, dI)) (ci := 5) (v := .ref g_allValue) (C := RX5) (T := TX5) (N := 30) hx hb hts hi_5 hown hK hP 0 rfl rfl 9 (by decide) hf_32 (fun _ h9 => h9) rfl dX5_isAhead_45 ?_
    refine lv_iload_n hx hb dX5_isAhead_48 rfl (lv_at hl 2 rfl) ?_
    refine va_iald hx hb hK hP 1 0 rfl rfl (ki_in (om_10 b2) (om_30 b3)) dX5_isAhead_49 ?_
    refine lv_topi (fun y_5 ey_5 => ?_)
    have j_5 : y_5.toInt = (av p1.toNatClampNeg).toInt := congrArg Int32.toInt ey_5
    refine lv_icmp_ge (tgt := 57) hx hb dX5_isAhead_50 (by decide) (fun c_6 => ?_) (fun c_6 => ?_)
    · have i_6 : y_5.toInt ≤ y_4.toInt := kc_le c_6
      refine lv_iconst (v := 0) hx hb dX5_isAhead_57 (by decide) ?_
      exact W.zret (v := 0) hx hb hr (by decide) (hlocks := hlocks) (fun t ht hW => ⟨0, rfl, Or.inr (⟨rfl, (Or.inr ⟨(om_245 j_1 j_2 i_3), (om_38 j_4 j_5 i_6)⟩)⟩), ht⟩) (fun q hq => by cases hq) dX5_isAhead_58
    · have i_6 : y_4.toInt < y_5.toInt := kc_nle c_6
      refine lv_iconst (v := 1) hx hb dX5_isAhead_53 (by decide) ?_
      refine lv_goto (tgt := 58) hx hb dX5_isAhead_54 (by decide) ?_
      exact W.zret (v := 1) hx hb hr (by decide) (hlocks := hlocks) (fun t ht hW => ⟨1, rfl, Or.inl ⟨rfl, (Or.inr ⟨(om_245 j_1 j_2 i_3), (om_39 j_4 j_5 i_6)⟩)⟩, ht⟩) (fun q hq => by cases hq) dX5_isAhead_58
  · have i_3 : ¬ y_1.toInt = y_2.toInt := kc_ne c_3
    refine lv_aload_n hx hb dX5_isAhead_15 rfl (lv_at hl 0 rfl) ?_
    refine va_get (D := (dC, dI)) (ci := 5) (v := .ref g_allNumber) (C := RX5) (T := TX5) (N := 30) hx hb hts hi_5 hown hK hP 0 rfl rfl 10 (by decide) hf_35 (fun _ h9 => h9) rfl dX5_isAhead_16 ?_
    refine lv_iload_n hx hb dX5_isAhead_19 rfl (lv_at hl 1 rfl) ?_
    refine va_iald hx hb hK hP 2 0 rfl rfl (ki_in (om_10 b0) (om_30 b1)) dX5_isAhead_20 ?_
    refine lv_topi (fun y_7 ey_7 => ?_)
    have j_7 : y_7.toInt = (an p0.toNatClampNeg).toInt := congrArg Int32.toInt ey_7
    refine lv_aload_n hx hb dX5_isAhead_21 rfl (lv_at hl 0 rfl) ?_
    refine va_get (D := (dC, dI)) (ci := 5) (v := .ref g_allNumber) (C := RX5) (T := TX5) (N := 30) hx hb hts hi_5 hown hK hP 0 rfl rfl 10 (by decide) hf_35 (fun _ h9 => h9) rfl dX5_isAhead_22 ?_
    refine lv_iload_n hx hb dX5_isAhead_25 rfl (lv_at hl 2 rfl) ?_
    refine va_iald hx hb hK hP 2 0 rfl rfl (ki_in (om_10 b2) (om_30 b3)) dX5_isAhead_26 ?_
    refine lv_topi (fun y_8 ey_8 => ?_)
    have j_8 : y_8.toInt = (an p1.toNatClampNeg).toInt := congrArg Int32.toInt ey_8
    refine lv_icmp_le (tgt := 34) hx hb dX5_isAhead_27 (by decide) (fun c_9 => ?_) (fun c_9 => ?_)
    · have i_9 : y_7.toInt ≤ y_8.toInt := kc_le c_9
      refine lv_iconst (v := 0) hx hb dX5_isAhead_34 (by decide) ?_
      refine lv_goto (tgt := 58) hx hb dX5_isAhead_35 (by decide) ?_
      exact W.zret (v := 0) hx hb hr (by decide) (hlocks := hlocks) (fun t ht hW => ⟨0, rfl, Or.inr (⟨rfl, by omega⟩), ht⟩) (fun q hq => by cases hq) dX5_isAhead_58
    · have i_9 : y_8.toInt < y_7.toInt := kc_nle c_9
      refine lv_iconst (v := 1) hx hb dX5_isAhead_30 (by decide) ?_
      refine lv_goto (tgt := 58) hx hb dX5_isAhead_31 (by decide) ?_
      exact W.zret (v := 1) hx hb hr (by decide) (hlocks := hlocks) (fun t ht hW => ⟨1, rfl, Or.inl ⟨rfl, (Or.inl (om_36 j_7 j_8 i_9))⟩, ht⟩) (fun q hq => by cases hq) dX5_isAhead_58

set_option maxHeartbeats 4000000 in
set_option maxRecDepth 100000 in
theorem c_X5_numberOf (l : Launch) (dC : Nat → ClassId) (dI : Nat → Nat → Nat) (h0 : Nat) (g_row : Nat) (g_many : Nat) (g_loss : Nat) (g_less : Nat) (g_voteValue : Nat) (g_voteNumber : Nat) (g_allValue : Nat) (g_allNumber : Nat) (g_nodeL : Nat) (g_nodeR : Nat) (g_part : Nat) (g_wasMany : Nat) (g_wasLoss : Nat) (g_wasValue : Nat) (g_wasNumber : Nat) (g_path : Nat) (g_heavyValue : Nat) (g_heavyTimes : Nat) (g_fewest : Nat) (g_which : Nat) (g_met : Nat) (m_n : Int32) (m_slots : Int32) (m_thrown : Int32) (m_allMany : Int32) (m_nodes : Int32) (m_partMany : Int32) (m_pathMany : Int32) (m_heavyMany : Int32) (m_mostMet : Int32) (cyI : ClassId) (fm : Nat → Int32) (vv : Nat → Int32) (vn : Nat → Int32) (p0 : Int32) (p1 : Int32) (b0 : 0 ≤ p0.toInt) (b1 : p0.toInt < 324) (s4 : six4 fm) : Met l yX5_numberOf wsX5_numberOf ({ frames := 0, cells := 0, slots := 0, locals := 0 }) (va_Pc [.ref h0, .int p0, .int p1] (fun U => va_P (dC, dI) vwCl [kx_5 h0 g_row m_n m_slots m_thrown g_many g_loss g_less g_voteValue g_voteNumber g_allValue g_allNumber m_allMany g_nodeL g_nodeR m_nodes g_part m_partMany g_wasMany g_wasLoss g_wasValue g_wasNumber g_path m_pathMany g_heavyValue g_heavyTimes m_heavyMany g_fewest g_which g_met m_mostMet, kx_a g_many cyI 324 fm, kx_a g_voteValue cyI 1944 vv, kx_a g_voteNumber cyI 1944 vn] U.heap ∧ va_K (dC, dI) vwCl [(cyI, .int)] U)) (vp_Si (fun r : Int32 => True)) 0 0 (fun _ => False) := by
  refine kx_stS (ws := wsX5_numberOf) (cc := cX5_numberOf) (maxL := 4) (ret := (some .int)) (by decide) rfl (Nat.le_of_ble_eq_true rfl) ?_
  intro p e s m below meth c ls hx hb hr hlocks hts hown hml hP hK hl
  have hown : s.vm.findClass RX5 = some m.cls := hown
  have hl : lv_has ls 4 [(0, .ref h0), (1, .int p0), (2, .int p1)] := hl
  have hf_17 := hts (.fieldLink RX5 17 "MajorityIndexModel" "many" "[I") (List.mem_of_getElem? (i := 1) rfl)
  have hi_5 : ∀ w ∈ u_ws RX5 TX5 30, w ∈ wsX5_numberOf := fun w h => List.mem_cons_of_mem _ (List.mem_append_right _ h)
  have hf_26 := hts (.fieldLink RX5 26 "MajorityIndexModel" "voteValue" "[I") (List.mem_of_getElem? (i := 2) rfl)
  have hf_29 := hts (.fieldLink RX5 29 "MajorityIndexModel" "voteNumber" "[I") (List.mem_of_getElem? (i := 3) rfl)
  refine lv_iconst (v := 0) hx hb dX5_numberOf_0 (by decide) ?_
  refine lv_istore_n (lv' := [(3, .int 0), (0, .ref h0), (1, .int p0), (2, .int p1)]) hx hb dX5_numberOf_1 rfl hl (by decide) rfl (fun ls hl => ?_)
  have LP1 : ∀ (n : Nat) (i : Int32), (0 ≤ i.toInt) → (6 - i.toInt).toNat < n → ∀ (ls : Array Slot), lv_has ls 4 [(3, .int i), (0, .ref h0), (1, .int p0), (2, .int p1)] → W p l e (headSpec wsX5_numberOf ({ frames := 0, cells := 0, slots := 0, locals := 0 })).room s m ([.ref h0, .int p0, .int p1] : List Value).toArray below meth c s.heap [] 0 0 (MQ below (vp_Si (fun r : Int32 => True)) ([.ref h0, .int p0, .int p1] : List Value).toArray s 0 0 (fun _ => False)) (F0 m 2 ls []) := by
    intro n
    induction n with
    | zero => intro i LP1_h0 hn; exact absurd hn (Nat.not_lt_zero _)
    | succ n ih1 =>
      intro i LP1_h0 hn1 ls hl
      refine lv_iload_n hx hb dX5_numberOf_2 rfl (lv_at hl 0 rfl) ?_
      refine lv_aload_n hx hb dX5_numberOf_3 rfl (lv_at hl 1 rfl) ?_
      refine va_get (D := (dC, dI)) (ci := 5) (v := .ref g_many) (C := RX5) (T := TX5) (N := 30) hx hb hts hi_5 hown hK hP 0 rfl rfl 4 (by decide) hf_17 (fun _ h9 => h9) rfl dX5_numberOf_4 ?_
      refine lv_iload_n hx hb dX5_numberOf_7 rfl (lv_at hl 2 rfl) ?_
      refine va_iald hx hb hK hP 1 0 rfl rfl (ki_in (om_10 b0) (om_246 b1)) dX5_numberOf_8 ?_
      refine lv_topi (fun y_1 ey_1 => ?_)
      have j_1 : y_1.toInt = (fm p0.toNatClampNeg).toInt := congrArg Int32.toInt ey_1
      have n_2 : (p0.toNatClampNeg : Int) = p0.toInt := ki_nat _ rfl (om_10 b0)
      have i_3 := s4 p0.toNatClampNeg (om_ln n_2 (om_246 b1))
      refine lv_icmp_ge (tgt := 45) hx hb dX5_numberOf_9 (by decide) (fun c_4 => ?_) (fun c_4 => ?_)
      · have i_4 : y_1.toInt ≤ i.toInt := kc_le c_4
        refine lv_iconst (v := 0) hx hb dX5_numberOf_45 (by decide) ?_
        exact W.iret (v := 0) hx hb hr (hlocks := hlocks) (fun t ht hW => ⟨0, rfl, trivial, ht⟩) (fun q hq => by cases hq) dX5_numberOf_46
      · have i_4 : i.toInt < y_1.toInt := kc_nle c_4
        refine lv_aload_n hx hb dX5_numberOf_12 rfl (lv_at hl 1 rfl) ?_
        refine va_get (D := (dC, dI)) (ci := 5) (v := .ref g_voteValue) (C := RX5) (T := TX5) (N := 30) hx hb hts hi_5 hown hK hP 0 rfl rfl 7 (by decide) hf_26 (fun _ h9 => h9) rfl dX5_numberOf_13 ?_
        refine lv_bipush (v := 6) hx hb dX5_numberOf_16 (by decide) ?_
        refine lv_iload_n hx hb dX5_numberOf_18 rfl (lv_at hl 2 rfl) ?_
        refine lv_imul hx hb dX5_numberOf_19 ?_
        refine lv_topi (fun y_5 ey_5 => ?_)
        have i_5 : y_5.toInt = 6 * p0.toInt := ki_mul ey_5 rfl rfl (om_247 b0) (om_248 b1)
        refine lv_iload_n hx hb dX5_numberOf_20 rfl (lv_at hl 0 rfl) ?_
        refine lv_iadd hx hb dX5_numberOf_21 ?_
        refine lv_topi (fun y_6 ey_6 => ?_)
        have i_6 : y_6.toInt = y_5.toInt + i.toInt := ki_add ey_6 rfl rfl (om_251 b0 LP1_h0 i_5) (om_252 b1 j_1 i_3.2 i_4 i_5)
        refine va_iald hx hb hK hP 2 0 rfl rfl (ki_in (om_253 b0 LP1_h0 i_5 i_6) (om_254 b1 j_1 i_3.2 i_4 i_5 i_6)) dX5_numberOf_22 ?_
        refine lv_topi (fun y_7 ey_7 => ?_)
        have j_7 : y_7.toInt = (vv y_6.toNatClampNeg).toInt := congrArg Int32.toInt ey_7
        refine lv_iload_n hx hb dX5_numberOf_23 rfl (lv_at hl 3 rfl) ?_
        refine lv_icmp_ne (tgt := 39) hx hb dX5_numberOf_24 (by decide) (fun c_8 => ?_) (fun c_8 => ?_)
        · have i_8 : ¬ y_7.toInt = p1.toInt := kc_ne c_8
          obtain ⟨x_9, ex_9⟩ : ∃ y : Int32, y = i + 1 := ⟨_, rfl⟩
          have i_9 : x_9.toInt = i.toInt + 1 := ki_add ex_9 rfl rfl (om_13 LP1_h0) (om_101 j_1 i_3.2 i_4)
          refine lv_iinc (v := x_9) (lv' := [(3, .int x_9), (0, .ref h0), (1, .int p0), (2, .int p1)]) hx hb dX5_numberOf_39 hl (k := 0) rfl (by rw [ex_9]; rfl) (by decide) rfl (fun ls hl => ?_)
          refine lv_goto (tgt := 2) hx hb dX5_numberOf_42 (by decide) ?_
          exact ih1 x_9 (om_34 LP1_h0 i_9) (om_mu hn1 (om_102 i_9) (om_103 j_1 i_3.2 i_4)) ls (lv_sub hl [0, 1, 2, 3] rfl)
        · have i_8 : y_7.toInt = p1.toInt := kc_eq c_8
          refine lv_aload_n hx hb dX5_numberOf_27 rfl (lv_at hl 1 rfl) ?_
          refine va_get (D := (dC, dI)) (ci := 5) (v := .ref g_voteNumber) (C := RX5) (T := TX5) (N := 30) hx hb hts hi_5 hown hK hP 0 rfl rfl 8 (by decide) hf_29 (fun _ h9 => h9) rfl dX5_numberOf_28 ?_
          refine lv_bipush (v := 6) hx hb dX5_numberOf_31 (by decide) ?_
          refine lv_iload_n hx hb dX5_numberOf_33 rfl (lv_at hl 2 rfl) ?_
          refine lv_imul hx hb dX5_numberOf_34 ?_
          refine lv_topi (fun y_10 ey_10 => ?_)
          have i_10 : y_10.toInt = 6 * p0.toInt := ki_mul ey_10 rfl rfl (om_247 b0) (om_248 b1)
          refine lv_iload_n hx hb dX5_numberOf_35 rfl (lv_at hl 0 rfl) ?_
          refine lv_iadd hx hb dX5_numberOf_36 ?_
          refine lv_topi (fun y_11 ey_11 => ?_)
          have i_11 : y_11.toInt = y_10.toInt + i.toInt := ki_add ey_11 rfl rfl (om_251 b0 LP1_h0 i_10) (om_252 b1 j_1 i_3.2 i_4 i_10)
          refine va_iald hx hb hK hP 3 0 rfl rfl (ki_in (om_253 b0 LP1_h0 i_10 i_11) (om_254 b1 j_1 i_3.2 i_4 i_10 i_11)) dX5_numberOf_37 ?_
          refine lv_topi (fun y_12 ey_12 => ?_)
          have j_12 : y_12.toInt = (vn y_11.toNatClampNeg).toInt := congrArg Int32.toInt ey_12
          exact W.iret (v := y_12) hx hb hr (hlocks := hlocks) (fun t ht hW => ⟨y_12, rfl, trivial, ht⟩) (fun q hq => by cases hq) dX5_numberOf_38
  have k_13 : (0 : Int32).toInt = 0 := rfl
  exact LP1 ((6 - 0 : Int).toNat + 1) 0 om_35 (Nat.lt_succ_self _) ls (lv_sub hl [0, 1, 2, 3] rfl)

set_option maxHeartbeats 4000000 in
set_option maxRecDepth 100000 in
theorem c_X5_numbersOf (l : Launch) (dC : Nat → ClassId) (dI : Nat → Nat → Nat) (h0 : Nat) (g_row : Nat) (g_many : Nat) (g_loss : Nat) (g_less : Nat) (g_voteValue : Nat) (g_voteNumber : Nat) (g_allValue : Nat) (g_allNumber : Nat) (g_nodeL : Nat) (g_nodeR : Nat) (g_part : Nat) (g_wasMany : Nat) (g_wasLoss : Nat) (g_wasValue : Nat) (g_wasNumber : Nat) (g_path : Nat) (g_heavyValue : Nat) (g_heavyTimes : Nat) (g_fewest : Nat) (g_which : Nat) (g_met : Nat) (m_n : Int32) (m_slots : Int32) (m_thrown : Int32) (m_allMany : Int32) (m_nodes : Int32) (m_partMany : Int32) (m_pathMany : Int32) (m_heavyMany : Int32) (m_mostMet : Int32) (cyI : ClassId) (fm : Nat → Int32) (vn : Nat → Int32) (p0 : Int32) (b0 : 0 ≤ p0.toInt) (b1 : p0.toInt < 324) (s4 : six4 fm) : Met l yX5_numbersOf wsX5_numbersOf ({ frames := 0, cells := 0, slots := 0, locals := 0 }) (va_Pc [.ref h0, .int p0] (fun U => va_P (dC, dI) vwCl [kx_5 h0 g_row m_n m_slots m_thrown g_many g_loss g_less g_voteValue g_voteNumber g_allValue g_allNumber m_allMany g_nodeL g_nodeR m_nodes g_part m_partMany g_wasMany g_wasLoss g_wasValue g_wasNumber g_path m_pathMany g_heavyValue g_heavyTimes m_heavyMany g_fewest g_which g_met m_mostMet, kx_a g_many cyI 324 fm, kx_a g_voteNumber cyI 1944 vn] U.heap ∧ va_K (dC, dI) vwCl [(cyI, .int)] U)) (vp_Si (fun r : Int32 => True)) 0 0 (fun _ => False) := by
  refine kx_stS (ws := wsX5_numbersOf) (cc := cX5_numbersOf) (maxL := 4) (ret := (some .int)) (by decide) rfl (Nat.le_of_ble_eq_true rfl) ?_
  intro p e s m below meth c ls hx hb hr hlocks hts hown hml hP hK hl
  have hown : s.vm.findClass RX5 = some m.cls := hown
  have hl : lv_has ls 4 [(0, .ref h0), (1, .int p0)] := hl
  have hf_17 := hts (.fieldLink RX5 17 "MajorityIndexModel" "many" "[I") (List.mem_of_getElem? (i := 1) rfl)
  have hi_5 : ∀ w ∈ u_ws RX5 TX5 30, w ∈ wsX5_numbersOf := fun w h => List.mem_cons_of_mem _ (List.mem_append_right _ h)
  have hf_29 := hts (.fieldLink RX5 29 "MajorityIndexModel" "voteNumber" "[I") (List.mem_of_getElem? (i := 2) rfl)
  refine lv_iconst (v := 0) hx hb dX5_numbersOf_0 (by decide) ?_
  refine lv_istore_n (lv' := [(2, .int 0), (0, .ref h0), (1, .int p0)]) hx hb dX5_numbersOf_1 rfl hl (by decide) rfl (fun ls hl => ?_)
  refine lv_iconst (v := 0) hx hb dX5_numbersOf_2 (by decide) ?_
  refine lv_istore_n (lv' := [(3, .int 0), (2, .int 0), (0, .ref h0), (1, .int p0)]) hx hb dX5_numbersOf_3 rfl hl (by decide) rfl (fun ls hl => ?_)
  have LP1 : ∀ (n : Nat) (i : Int32) (sm : Int32), (0 ≤ i.toInt) → (6 - i.toInt).toNat < n → ∀ (ls : Array Slot), lv_has ls 4 [(3, .int i), (2, .int sm), (0, .ref h0), (1, .int p0)] → W p l e (headSpec wsX5_numbersOf ({ frames := 0, cells := 0, slots := 0, locals := 0 })).room s m ([.ref h0, .int p0] : List Value).toArray below meth c s.heap [] 0 0 (MQ below (vp_Si (fun r : Int32 => True)) ([.ref h0, .int p0] : List Value).toArray s 0 0 (fun _ => False)) (F0 m 4 ls []) := by
    intro n
    induction n with
    | zero => intro i sm LP1_h0 hn; exact absurd hn (Nat.not_lt_zero _)
    | succ n ih1 =>
      intro i sm LP1_h0 hn1 ls hl
      refine lv_iload_n hx hb dX5_numbersOf_4 rfl (lv_at hl 0 rfl) ?_
      refine lv_aload_n hx hb dX5_numbersOf_5 rfl (lv_at hl 2 rfl) ?_
      refine va_get (D := (dC, dI)) (ci := 5) (v := .ref g_many) (C := RX5) (T := TX5) (N := 30) hx hb hts hi_5 hown hK hP 0 rfl rfl 4 (by decide) hf_17 (fun _ h9 => h9) rfl dX5_numbersOf_6 ?_
      refine lv_iload_n hx hb dX5_numbersOf_9 rfl (lv_at hl 3 rfl) ?_
      refine va_iald hx hb hK hP 1 0 rfl rfl (ki_in (om_10 b0) (om_246 b1)) dX5_numbersOf_10 ?_
      refine lv_topi (fun y_1 ey_1 => ?_)
      have j_1 : y_1.toInt = (fm p0.toNatClampNeg).toInt := congrArg Int32.toInt ey_1
      have n_2 : (p0.toNatClampNeg : Int) = p0.toInt := ki_nat _ rfl (om_10 b0)
      have i_3 := s4 p0.toNatClampNeg (om_ln n_2 (om_246 b1))
      refine lv_icmp_ge (tgt := 34) hx hb dX5_numbersOf_11 (by decide) (fun c_4 => ?_) (fun c_4 => ?_)
      · have i_4 : y_1.toInt ≤ i.toInt := kc_le c_4
        refine lv_iload_n hx hb dX5_numbersOf_34 rfl (lv_at hl 1 rfl) ?_
        exact W.iret (v := sm) hx hb hr (hlocks := hlocks) (fun t ht hW => ⟨sm, rfl, trivial, ht⟩) (fun q hq => by cases hq) dX5_numbersOf_35
      · have i_4 : i.toInt < y_1.toInt := kc_nle c_4
        refine lv_iload_n hx hb dX5_numbersOf_14 rfl (lv_at hl 1 rfl) ?_
        refine lv_aload_n hx hb dX5_numbersOf_15 rfl (lv_at hl 2 rfl) ?_
        refine va_get (D := (dC, dI)) (ci := 5) (v := .ref g_voteNumber) (C := RX5) (T := TX5) (N := 30) hx hb hts hi_5 hown hK hP 0 rfl rfl 8 (by decide) hf_29 (fun _ h9 => h9) rfl dX5_numbersOf_16 ?_
        refine lv_bipush (v := 6) hx hb dX5_numbersOf_19 (by decide) ?_
        refine lv_iload_n hx hb dX5_numbersOf_21 rfl (lv_at hl 3 rfl) ?_
        refine lv_imul hx hb dX5_numbersOf_22 ?_
        refine lv_topi (fun y_5 ey_5 => ?_)
        have i_5 : y_5.toInt = 6 * p0.toInt := ki_mul ey_5 rfl rfl (om_247 b0) (om_248 b1)
        refine lv_iload_n hx hb dX5_numbersOf_23 rfl (lv_at hl 0 rfl) ?_
        refine lv_iadd hx hb dX5_numbersOf_24 ?_
        refine lv_topi (fun y_6 ey_6 => ?_)
        have i_6 : y_6.toInt = y_5.toInt + i.toInt := ki_add ey_6 rfl rfl (om_251 b0 LP1_h0 i_5) (om_252 b1 j_1 i_3.2 i_4 i_5)
        refine va_iald hx hb hK hP 2 0 rfl rfl (ki_in (om_253 b0 LP1_h0 i_5 i_6) (om_254 b1 j_1 i_3.2 i_4 i_5 i_6)) dX5_numbersOf_25 ?_
        refine lv_topi (fun y_7 ey_7 => ?_)
        have j_7 : y_7.toInt = (vn y_6.toNatClampNeg).toInt := congrArg Int32.toInt ey_7
        refine lv_iadd hx hb dX5_numbersOf_26 ?_
        refine lv_topi (fun y_8 ey_8 => ?_)
        refine lv_istore_n (lv' := [(2, .int y_8), (3, .int i), (0, .ref h0), (1, .int p0)]) hx hb dX5_numbersOf_27 rfl hl (by decide) rfl (fun ls hl => ?_)
        obtain ⟨x_9, ex_9⟩ : ∃ y : Int32, y = i + 1 := ⟨_, rfl⟩
        have i_9 : x_9.toInt = i.toInt + 1 := ki_add ex_9 rfl rfl (om_13 LP1_h0) (om_101 j_1 i_3.2 i_4)
        refine lv_iinc (v := x_9) (lv' := [(3, .int x_9), (2, .int y_8), (0, .ref h0), (1, .int p0)]) hx hb dX5_numbersOf_28 hl (k := 1) rfl (by rw [ex_9]; rfl) (by decide) rfl (fun ls hl => ?_)
        refine lv_goto (tgt := 4) hx hb dX5_numbersOf_31 (by decide) ?_
        exact ih1 x_9 y_8 (om_34 LP1_h0 i_9) (om_mu hn1 (om_102 i_9) (om_103 j_1 i_3.2 i_4)) ls (lv_sub hl [0, 1, 2, 3] rfl)
  have k_10 : (0 : Int32).toInt = 0 := rfl
  have k_11 : (0 : Int32).toInt = 0 := rfl
  exact LP1 ((6 - 0 : Int).toNat + 1) 0 0 om_35 (Nat.lt_succ_self _) ls (lv_sub hl [0, 1, 2, 3] rfl)

set_option maxHeartbeats 4000000 in
set_option maxRecDepth 100000 in
theorem c_X5_nodeOf (l : Launch) (dC : Nat → ClassId) (dI : Nat → Nat → Nat) (h0 : Nat) (g_row : Nat) (g_many : Nat) (g_loss : Nat) (g_less : Nat) (g_voteValue : Nat) (g_voteNumber : Nat) (g_allValue : Nat) (g_allNumber : Nat) (g_nodeL : Nat) (g_nodeR : Nat) (g_part : Nat) (g_wasMany : Nat) (g_wasLoss : Nat) (g_wasValue : Nat) (g_wasNumber : Nat) (g_path : Nat) (g_heavyValue : Nat) (g_heavyTimes : Nat) (g_fewest : Nat) (g_which : Nat) (g_met : Nat) (m_n : Int32) (m_slots : Int32) (m_thrown : Int32) (m_allMany : Int32) (m_nodes : Int32) (m_partMany : Int32) (m_pathMany : Int32) (m_heavyMany : Int32) (m_mostMet : Int32) (cyI : ClassId) (nl : Nat → Int32) (nr : Nat → Int32) (p0 : Int32) (p1 : Int32) (b0 : 0 ≤ m_nodes.toInt) (b1 : m_nodes.toInt ≤ 320) : Met l yX5_nodeOf wsX5_nodeOf ({ frames := 0, cells := 0, slots := 0, locals := 0 }) (va_Pc [.ref h0, .int p0, .int p1] (fun U => va_P (dC, dI) vwCl [kx_5 h0 g_row m_n m_slots m_thrown g_many g_loss g_less g_voteValue g_voteNumber g_allValue g_allNumber m_allMany g_nodeL g_nodeR m_nodes g_part m_partMany g_wasMany g_wasLoss g_wasValue g_wasNumber g_path m_pathMany g_heavyValue g_heavyTimes m_heavyMany g_fewest g_which g_met m_mostMet, kx_a g_nodeL cyI 320 nl, kx_a g_nodeR cyI 320 nr] U.heap ∧ va_K (dC, dI) vwCl [(cyI, .int)] U)) (vp_Si (fun r : Int32 => (r.toInt = -2 ∨ (0 ≤ r.toInt ∧ r.toInt < m_nodes.toInt)))) 0 0 (fun _ => False) := by
  refine kx_stS (ws := wsX5_nodeOf) (cc := cX5_nodeOf) (maxL := 4) (ret := (some .int)) (by decide) rfl (Nat.le_of_ble_eq_true rfl) ?_
  intro p e s m below meth c ls hx hb hr hlocks hts hown hml hP hK hl
  have hown : s.vm.findClass RX5 = some m.cls := hown
  have hl : lv_has ls 4 [(0, .ref h0), (1, .int p0), (2, .int p1)] := hl
  have hf_101 := hts (.fieldLink RX5 101 "MajorityIndexModel" "nodes" "I") (List.mem_of_getElem? (i := 1) rfl)
  have hi_5 : ∀ w ∈ u_ws RX5 TX5 30, w ∈ wsX5_nodeOf := fun w h => List.mem_cons_of_mem _ (List.mem_append_right _ h)
  have hf_38 := hts (.fieldLink RX5 38 "MajorityIndexModel" "nodeL" "[I") (List.mem_of_getElem? (i := 2) rfl)
  have hf_41 := hts (.fieldLink RX5 41 "MajorityIndexModel" "nodeR" "[I") (List.mem_of_getElem? (i := 3) rfl)
  refine lv_iconst (v := 0) hx hb dX5_nodeOf_0 (by decide) ?_
  refine lv_istore_n (lv' := [(3, .int 0), (0, .ref h0), (1, .int p0), (2, .int p1)]) hx hb dX5_nodeOf_1 rfl hl (by decide) rfl (fun ls hl => ?_)
  have LP1 : ∀ (n : Nat) (i : Int32), (0 ≤ i.toInt) → (m_nodes.toInt - i.toInt).toNat < n → ∀ (ls : Array Slot), lv_has ls 4 [(3, .int i), (0, .ref h0), (1, .int p0), (2, .int p1)] → W p l e (headSpec wsX5_nodeOf ({ frames := 0, cells := 0, slots := 0, locals := 0 })).room s m ([.ref h0, .int p0, .int p1] : List Value).toArray below meth c s.heap [] 0 0 (MQ below (vp_Si (fun r : Int32 => (r.toInt = -2 ∨ (0 ≤ r.toInt ∧ r.toInt < m_nodes.toInt)))) ([.ref h0, .int p0, .int p1] : List Value).toArray s 0 0 (fun _ => False)) (F0 m 2 ls []) := by
    intro n
    induction n with
    | zero => intro i LP1_h0 hn; exact absurd hn (Nat.not_lt_zero _)
    | succ n ih1 =>
      intro i LP1_h0 hn1 ls hl
      refine lv_iload_n hx hb dX5_nodeOf_2 rfl (lv_at hl 0 rfl) ?_
      refine lv_aload_n hx hb dX5_nodeOf_3 rfl (lv_at hl 1 rfl) ?_
      refine va_get (D := (dC, dI)) (ci := 5) (v := .int m_nodes) (C := RX5) (T := TX5) (N := 30) hx hb hts hi_5 hown hK hP 0 rfl rfl 14 (by decide) hf_101 (fun _ h9 => h9) rfl dX5_nodeOf_4 ?_
      refine lv_icmp_ge (tgt := 38) hx hb dX5_nodeOf_7 (by decide) (fun c_1 => ?_) (fun c_1 => ?_)
      · have i_1 : m_nodes.toInt ≤ i.toInt := kc_le c_1
        refine lv_bipush (v := (-2)) hx hb dX5_nodeOf_38 (by decide) ?_
        exact W.iret (v := (-2)) hx hb hr (hlocks := hlocks) (fun t ht hW => ⟨(-2), rfl, (Or.inl rfl), ht⟩) (fun q hq => by cases hq) dX5_nodeOf_40
      · have i_1 : i.toInt < m_nodes.toInt := kc_nle c_1
        refine lv_aload_n hx hb dX5_nodeOf_10 rfl (lv_at hl 1 rfl) ?_
        refine va_get (D := (dC, dI)) (ci := 5) (v := .ref g_nodeL) (C := RX5) (T := TX5) (N := 30) hx hb hts hi_5 hown hK hP 0 rfl rfl 12 (by decide) hf_38 (fun _ h9 => h9) rfl dX5_nodeOf_11 ?_
        refine lv_iload_n hx hb dX5_nodeOf_14 rfl (lv_at hl 0 rfl) ?_
        refine va_iald hx hb hK hP 1 0 rfl rfl (ki_in (om_10 LP1_h0) (om_255 b1 i_1)) dX5_nodeOf_15 ?_
        refine lv_topi (fun y_2 ey_2 => ?_)
        have j_2 : y_2.toInt = (nl i.toNatClampNeg).toInt := congrArg Int32.toInt ey_2
        refine lv_iload_n hx hb dX5_nodeOf_16 rfl (lv_at hl 2 rfl) ?_
        refine lv_icmp_ne (tgt := 32) hx hb dX5_nodeOf_17 (by decide) (fun c_3 => ?_) (fun c_3 => ?_)
        · have i_3 : ¬ y_2.toInt = p0.toInt := kc_ne c_3
          obtain ⟨x_4, ex_4⟩ : ∃ y : Int32, y = i + 1 := ⟨_, rfl⟩
          have i_4 : x_4.toInt = i.toInt + 1 := ki_add ex_4 rfl rfl (om_13 LP1_h0) (om_256 b1 i_1)
          refine lv_iinc (v := x_4) (lv' := [(3, .int x_4), (0, .ref h0), (1, .int p0), (2, .int p1)]) hx hb dX5_nodeOf_32 hl (k := 0) rfl (by rw [ex_4]; rfl) (by decide) rfl (fun ls hl => ?_)
          refine lv_goto (tgt := 2) hx hb dX5_nodeOf_35 (by decide) ?_
          exact ih1 x_4 (om_34 LP1_h0 i_4) (om_mu hn1 (om_5 i_4) (om_6 i_1)) ls (lv_sub hl [0, 1, 2, 3] rfl)
        · have i_3 : y_2.toInt = p0.toInt := kc_eq c_3
          refine lv_aload_n hx hb dX5_nodeOf_20 rfl (lv_at hl 1 rfl) ?_
          refine va_get (D := (dC, dI)) (ci := 5) (v := .ref g_nodeR) (C := RX5) (T := TX5) (N := 30) hx hb hts hi_5 hown hK hP 0 rfl rfl 13 (by decide) hf_41 (fun _ h9 => h9) rfl dX5_nodeOf_21 ?_
          refine lv_iload_n hx hb dX5_nodeOf_24 rfl (lv_at hl 0 rfl) ?_
          refine va_iald hx hb hK hP 2 0 rfl rfl (ki_in (om_10 LP1_h0) (om_255 b1 i_1)) dX5_nodeOf_25 ?_
          refine lv_topi (fun y_5 ey_5 => ?_)
          have j_5 : y_5.toInt = (nr i.toNatClampNeg).toInt := congrArg Int32.toInt ey_5
          refine lv_iload_n hx hb dX5_nodeOf_26 rfl (lv_at hl 3 rfl) ?_
          refine lv_icmp_ne (tgt := 32) hx hb dX5_nodeOf_27 (by decide) (fun c_6 => ?_) (fun c_6 => ?_)
          · have i_6 : ¬ y_5.toInt = p1.toInt := kc_ne c_6
            obtain ⟨x_7, ex_7⟩ : ∃ y : Int32, y = i + 1 := ⟨_, rfl⟩
            have i_7 : x_7.toInt = i.toInt + 1 := ki_add ex_7 rfl rfl (om_13 LP1_h0) (om_256 b1 i_1)
            refine lv_iinc (v := x_7) (lv' := [(3, .int x_7), (0, .ref h0), (1, .int p0), (2, .int p1)]) hx hb dX5_nodeOf_32 hl (k := 0) rfl (by rw [ex_7]; rfl) (by decide) rfl (fun ls hl => ?_)
            refine lv_goto (tgt := 2) hx hb dX5_nodeOf_35 (by decide) ?_
            exact ih1 x_7 (om_34 LP1_h0 i_7) (om_mu hn1 (om_5 i_7) (om_6 i_1)) ls (lv_sub hl [0, 1, 2, 3] rfl)
          · have i_6 : y_5.toInt = p1.toInt := kc_eq c_6
            refine lv_iload_n hx hb dX5_nodeOf_30 rfl (lv_at hl 0 rfl) ?_
            exact W.iret (v := i) hx hb hr (hlocks := hlocks) (fun t ht hW => ⟨i, rfl, (by (try dsimp only); omega), ht⟩) (fun q hq => by cases hq) dX5_nodeOf_31
  have k_8 : (0 : Int32).toInt = 0 := rfl
  exact LP1 ((m_nodes.toInt - 0 : Int).toNat + 1) 0 om_35 (Nat.lt_succ_self _) ls (lv_sub hl [0, 1, 2, 3] rfl)



abbrev cX5_parted : ByteArray := prog_7_method_67_code
def yX5_parted : MethodName := ⟨RX5, "parted", "(II)I"⟩
abbrev cX5_laysNumbers : ByteArray := prog_7_method_69_code
def yX5_laysNumbers : MethodName := ⟨RX5, "laysNumbers", "()V"⟩
abbrev cX5_begins : ByteArray := prog_7_method_70_code
def yX5_begins : MethodName := ⟨RX5, "begins", "()V"⟩
abbrev cX5_goesOn : ByteArray := prog_7_method_71_code
def yX5_goesOn : MethodName := ⟨RX5, "goesOn", "(II)Z"⟩
abbrev cX5_majorities : ByteArray := prog_7_method_72_code
def yX5_majorities : MethodName := ⟨RX5, "majorities", "()I"⟩
def wsX5_laysNumbers : List Cond := .code yX5_laysNumbers cX5_laysNumbers 5 none :: ([.fieldLink RX5 84 "MajorityIndexModel" "n" "I", .fieldLink RX5 7 "MajorityIndexModel" "row" "[I", .fieldLink RX5 71 "MajorityIndexModel" "which" "[I"] ++ wsX50)
def wsX5_begins : List Cond := .code yX5_begins cX5_begins 2 none :: ([.fieldLink RX5 84 "MajorityIndexModel" "n" "I", .fieldLink RX5 74 "MajorityIndexModel" "met" "[I", .fieldLink RX5 210 "MajorityIndexModel" "mostMet" "I"] ++ wsX50)
def wsX5_goesOn : List Cond := .code yX5_goesOn cX5_goesOn 4 (some .boolean) :: ([.fieldLink RX5 71 "MajorityIndexModel" "which" "[I", .fieldLink RX5 74 "MajorityIndexModel" "met" "[I", .fieldLink RX5 210 "MajorityIndexModel" "mostMet" "I"] ++ wsX50)
def wsX5_parted : List Cond := .code yX5_parted cX5_parted 5 (some .int) :: ([.fieldLink RX5 77 "MajorityIndexModel" "thrown" "I", .fieldLink RX5 68 "MajorityIndexModel" "fewest" "[I", .methodLink RX5 142 yX5_isRange, .instanceMethod yX5_isRange, .selects RX5 yX5_isRange yX5_isRange, .initialized RX5, .code yX5_isRange cX5_isRange 3 (some .boolean), .fieldLink RX5 84 "MajorityIndexModel" "n" "I", .methodLink RX5 201 yX5_laysNumbers, .instanceMethod yX5_laysNumbers, .selects RX5 yX5_laysNumbers yX5_laysNumbers, .code yX5_laysNumbers cX5_laysNumbers 5 none, .fieldLink RX5 7 "MajorityIndexModel" "row" "[I", .fieldLink RX5 71 "MajorityIndexModel" "which" "[I", .methodLink RX5 204 yX5_begins, .instanceMethod yX5_begins, .selects RX5 yX5_begins yX5_begins, .code yX5_begins cX5_begins 2 none, .fieldLink RX5 74 "MajorityIndexModel" "met" "[I", .fieldLink RX5 210 "MajorityIndexModel" "mostMet" "I", .methodLink RX5 207 yX5_goesOn, .instanceMethod yX5_goesOn, .selects RX5 yX5_goesOn yX5_goesOn, .code yX5_goesOn cX5_goesOn 4 (some .boolean)] ++ wsX50)
def wsX5_majorities : List Cond := .code yX5_majorities cX5_majorities 4 (some .int) :: ([.fieldLink RX5 77 "MajorityIndexModel" "thrown" "I", .fieldLink RX5 84 "MajorityIndexModel" "n" "I", .methodLink RX5 201 yX5_laysNumbers, .instanceMethod yX5_laysNumbers, .selects RX5 yX5_laysNumbers yX5_laysNumbers, .initialized RX5, .code yX5_laysNumbers cX5_laysNumbers 5 none, .fieldLink RX5 7 "MajorityIndexModel" "row" "[I", .fieldLink RX5 71 "MajorityIndexModel" "which" "[I", .methodLink RX5 204 yX5_begins, .instanceMethod yX5_begins, .selects RX5 yX5_begins yX5_begins, .code yX5_begins cX5_begins 2 none, .fieldLink RX5 74 "MajorityIndexModel" "met" "[I", .fieldLink RX5 210 "MajorityIndexModel" "mostMet" "I", .methodLink RX5 207 yX5_goesOn, .instanceMethod yX5_goesOn, .selects RX5 yX5_goesOn yX5_goesOn, .code yX5_goesOn cX5_goesOn 4 (some .boolean)] ++ wsX50)
set_option maxRecDepth 20000 in
theorem ggX5_parted_X5_isRange : GoodIn wsX5_parted wsX5_isRange := goodIn_r _ [7, 8, 25, 26, 27, 28, 29, 30, 31, 32, 33, 34, 35, 36, 37, 38, 39, 40, 41, 42, 43, 44, 45, 46, 47, 48, 49, 50, 51, 52, 53, 54] rfl (by decide +kernel)
set_option maxRecDepth 20000 in
theorem gX5_parted_X5_isRange : GoodIn wsX5_parted (wsV RX5 142 RX5 yX5_isRange wsX5_isRange) := goodIn_app (goodIn_r _ [3, 4, 5, 6] rfl (by decide +kernel)) ggX5_parted_X5_isRange
set_option maxRecDepth 20000 in
theorem ggX5_parted_X5_laysNumbers : GoodIn wsX5_parted wsX5_laysNumbers := goodIn_r _ [12, 8, 13, 14, 25, 26, 27, 28, 29, 30, 31, 32, 33, 34, 35, 36, 37, 38, 39, 40, 41, 42, 43, 44, 45, 46, 47, 48, 49, 50, 51, 52, 53, 54] rfl (by decide +kernel)
set_option maxRecDepth 20000 in
theorem gX5_parted_X5_laysNumbers : GoodIn wsX5_parted (wsV RX5 201 RX5 yX5_laysNumbers wsX5_laysNumbers) := goodIn_app (goodIn_r _ [9, 10, 11, 6] rfl (by decide +kernel)) ggX5_parted_X5_laysNumbers
set_option maxRecDepth 20000 in
theorem ggX5_parted_X5_begins : GoodIn wsX5_parted wsX5_begins := goodIn_r _ [18, 8, 19, 20, 25, 26, 27, 28, 29, 30, 31, 32, 33, 34, 35, 36, 37, 38, 39, 40, 41, 42, 43, 44, 45, 46, 47, 48, 49, 50, 51, 52, 53, 54] rfl (by decide +kernel)
set_option maxRecDepth 20000 in
theorem gX5_parted_X5_begins : GoodIn wsX5_parted (wsV RX5 204 RX5 yX5_begins wsX5_begins) := goodIn_app (goodIn_r _ [15, 16, 17, 6] rfl (by decide +kernel)) ggX5_parted_X5_begins
set_option maxRecDepth 20000 in
theorem ggX5_parted_X5_goesOn : GoodIn wsX5_parted wsX5_goesOn := goodIn_r _ [24, 14, 19, 20, 25, 26, 27, 28, 29, 30, 31, 32, 33, 34, 35, 36, 37, 38, 39, 40, 41, 42, 43, 44, 45, 46, 47, 48, 49, 50, 51, 52, 53, 54] rfl (by decide +kernel)
set_option maxRecDepth 20000 in
theorem gX5_parted_X5_goesOn : GoodIn wsX5_parted (wsV RX5 207 RX5 yX5_goesOn wsX5_goesOn) := goodIn_app (goodIn_r _ [21, 22, 23, 6] rfl (by decide +kernel)) ggX5_parted_X5_goesOn
def dt_cX5_parted_0 : List (Nat × Nat × Nat × Nat) := [(0, 42, 0, 0), (1, 3, 0, 0), (2, 181, 2, 77), (5, 42, 0, 0), (6, 27, 0, 0), (7, 28, 0, 0), (8, 182, 2, 142), (11, 154, 2, 5), (14, 2, 0, 0), (15, 172, 0, 0), (16, 42, 0, 0), (17, 182, 2, 201), (20, 42, 0, 0), (21, 180, 2, 68), (24, 28, 0, 0), (25, 3, 0, 0), (26, 79, 0, 0), (27, 28, 0, 0), (28, 4, 0, 0), (29, 100, 0, 0)]
theorem da_cX5_parted_0 : fw dt_cX5_parted_0 0 cX5_parted.data.toList = true := by decide +kernel
theorem dX5_parted_0 : decode cX5_parted 0 = .ok (.aload_n 0, 1) := fo_42 (fw_get da_cX5_parted_0 0 rfl)
theorem dX5_parted_1 : decode cX5_parted 1 = .ok (.iconst 0, 1) := fo_3 (fw_get da_cX5_parted_0 1 rfl)
theorem dX5_parted_2 : decode cX5_parted 2 = .ok (.putfield 77, 3) := fo_181 (fw_get da_cX5_parted_0 2 rfl)
theorem dX5_parted_5 : decode cX5_parted 5 = .ok (.aload_n 0, 1) := fo_42 (fw_get da_cX5_parted_0 3 rfl)
theorem dX5_parted_6 : decode cX5_parted 6 = .ok (.iload_n 1, 1) := fo_27 (fw_get da_cX5_parted_0 4 rfl)
theorem dX5_parted_7 : decode cX5_parted 7 = .ok (.iload_n 2, 1) := fo_28 (fw_get da_cX5_parted_0 5 rfl)
theorem dX5_parted_8 : decode cX5_parted 8 = .ok (.invokevirtual 142, 3) := fo_182 (fw_get da_cX5_parted_0 6 rfl)
theorem dX5_parted_11 : decode cX5_parted 11 = .ok (.ifCond .ne 5, 3) := fo_154 (fw_get da_cX5_parted_0 7 rfl) (by decide +kernel)
theorem dX5_parted_14 : decode cX5_parted 14 = .ok (.iconst (-1), 1) := fo_2 (fw_get da_cX5_parted_0 8 rfl)
theorem dX5_parted_15 : decode cX5_parted 15 = .ok (.ireturn, 1) := fo_172 (fw_get da_cX5_parted_0 9 rfl)
theorem dX5_parted_16 : decode cX5_parted 16 = .ok (.aload_n 0, 1) := fo_42 (fw_get da_cX5_parted_0 10 rfl)
theorem dX5_parted_17 : decode cX5_parted 17 = .ok (.invokevirtual 201, 3) := fo_182 (fw_get da_cX5_parted_0 11 rfl)
theorem dX5_parted_20 : decode cX5_parted 20 = .ok (.aload_n 0, 1) := fo_42 (fw_get da_cX5_parted_0 12 rfl)
theorem dX5_parted_21 : decode cX5_parted 21 = .ok (.getfield 68, 3) := fo_180 (fw_get da_cX5_parted_0 13 rfl)
theorem dX5_parted_24 : decode cX5_parted 24 = .ok (.iload_n 2, 1) := fo_28 (fw_get da_cX5_parted_0 14 rfl)
theorem dX5_parted_25 : decode cX5_parted 25 = .ok (.iconst 0, 1) := fo_3 (fw_get da_cX5_parted_0 15 rfl)
theorem dX5_parted_26 : decode cX5_parted 26 = .ok (.iastore, 1) := fo_79 (fw_get da_cX5_parted_0 16 rfl)
theorem dX5_parted_27 : decode cX5_parted 27 = .ok (.iload_n 2, 1) := fo_28 (fw_get da_cX5_parted_0 17 rfl)
theorem dX5_parted_28 : decode cX5_parted 28 = .ok (.iconst 1, 1) := fo_4 (fw_get da_cX5_parted_0 18 rfl)
theorem dX5_parted_29 : decode cX5_parted 29 = .ok (.isub, 1) := fo_100 (fw_get da_cX5_parted_0 19 rfl)
def dt_cX5_parted_1 : List (Nat × Nat × Nat × Nat) := [(30, 62, 0, 0), (31, 29, 0, 0), (32, 27, 0, 0), (33, 161, 2, 82), (36, 42, 0, 0), (37, 180, 2, 68), (40, 29, 0, 0), (41, 17, 2, 161), (44, 79, 0, 0), (45, 42, 0, 0), (46, 182, 2, 204), (49, 29, 0, 0), (50, 4, 0, 0), (51, 96, 0, 0), (52, 54, 1, 4), (54, 21, 1, 4), (56, 28, 0, 0), (57, 163, 2, 52), (60, 42, 0, 0), (61, 21, 1, 4)]
theorem da_cX5_parted_1 : fw dt_cX5_parted_1 0 cX5_parted.data.toList = true := by decide +kernel
theorem dX5_parted_30 : decode cX5_parted 30 = .ok (.istore_n 3, 1) := fo_62 (fw_get da_cX5_parted_1 0 rfl)
theorem dX5_parted_31 : decode cX5_parted 31 = .ok (.iload_n 3, 1) := fo_29 (fw_get da_cX5_parted_1 1 rfl)
theorem dX5_parted_32 : decode cX5_parted 32 = .ok (.iload_n 1, 1) := fo_27 (fw_get da_cX5_parted_1 2 rfl)
theorem dX5_parted_33 : decode cX5_parted 33 = .ok (.if_icmp .lt 82, 3) := fo_161 (fw_get da_cX5_parted_1 3 rfl) (by decide +kernel)
theorem dX5_parted_36 : decode cX5_parted 36 = .ok (.aload_n 0, 1) := fo_42 (fw_get da_cX5_parted_1 4 rfl)
theorem dX5_parted_37 : decode cX5_parted 37 = .ok (.getfield 68, 3) := fo_180 (fw_get da_cX5_parted_1 5 rfl)
theorem dX5_parted_40 : decode cX5_parted 40 = .ok (.iload_n 3, 1) := fo_29 (fw_get da_cX5_parted_1 6 rfl)
theorem dX5_parted_41 : decode cX5_parted 41 = .ok (.sipush 161, 3) := fo_17 (fw_get da_cX5_parted_1 7 rfl) (by decide +kernel)
theorem dX5_parted_44 : decode cX5_parted 44 = .ok (.iastore, 1) := fo_79 (fw_get da_cX5_parted_1 8 rfl)
theorem dX5_parted_45 : decode cX5_parted 45 = .ok (.aload_n 0, 1) := fo_42 (fw_get da_cX5_parted_1 9 rfl)
theorem dX5_parted_46 : decode cX5_parted 46 = .ok (.invokevirtual 204, 3) := fo_182 (fw_get da_cX5_parted_1 10 rfl)
theorem dX5_parted_49 : decode cX5_parted 49 = .ok (.iload_n 3, 1) := fo_29 (fw_get da_cX5_parted_1 11 rfl)
theorem dX5_parted_50 : decode cX5_parted 50 = .ok (.iconst 1, 1) := fo_4 (fw_get da_cX5_parted_1 12 rfl)
theorem dX5_parted_51 : decode cX5_parted 51 = .ok (.iadd, 1) := fo_96 (fw_get da_cX5_parted_1 13 rfl)
theorem dX5_parted_52 : decode cX5_parted 52 = .ok (.istore 4, 2) := fo_54 (fw_get da_cX5_parted_1 14 rfl)
theorem dX5_parted_54 : decode cX5_parted 54 = .ok (.iload 4, 2) := fo_21 (fw_get da_cX5_parted_1 15 rfl)
theorem dX5_parted_56 : decode cX5_parted 56 = .ok (.iload_n 2, 1) := fo_28 (fw_get da_cX5_parted_1 16 rfl)
theorem dX5_parted_57 : decode cX5_parted 57 = .ok (.if_icmp .gt 52, 3) := fo_163 (fw_get da_cX5_parted_1 17 rfl) (by decide +kernel)
theorem dX5_parted_60 : decode cX5_parted 60 = .ok (.aload_n 0, 1) := fo_42 (fw_get da_cX5_parted_1 18 rfl)
theorem dX5_parted_61 : decode cX5_parted 61 = .ok (.iload 4, 2) := fo_21 (fw_get da_cX5_parted_1 19 rfl)
def dt_cX5_parted_2 : List (Nat × Nat × Nat × Nat) := [(63, 29, 0, 0), (64, 182, 2, 207), (67, 153, 2, 36), (70, 42, 0, 0), (71, 180, 2, 68), (74, 21, 1, 4), (76, 46, 0, 0), (77, 4, 0, 0), (78, 96, 0, 0), (79, 42, 0, 0), (80, 180, 2, 68), (83, 29, 0, 0), (84, 46, 0, 0), (85, 162, 2, 18), (88, 42, 0, 0), (89, 180, 2, 68), (92, 29, 0, 0), (93, 42, 0, 0), (94, 180, 2, 68), (97, 21, 1, 4)]
theorem da_cX5_parted_2 : fw dt_cX5_parted_2 0 cX5_parted.data.toList = true := by decide +kernel
theorem dX5_parted_63 : decode cX5_parted 63 = .ok (.iload_n 3, 1) := fo_29 (fw_get da_cX5_parted_2 0 rfl)
theorem dX5_parted_64 : decode cX5_parted 64 = .ok (.invokevirtual 207, 3) := fo_182 (fw_get da_cX5_parted_2 1 rfl)
theorem dX5_parted_67 : decode cX5_parted 67 = .ok (.ifCond .eq 36, 3) := fo_153 (fw_get da_cX5_parted_2 2 rfl) (by decide +kernel)
theorem dX5_parted_70 : decode cX5_parted 70 = .ok (.aload_n 0, 1) := fo_42 (fw_get da_cX5_parted_2 3 rfl)
theorem dX5_parted_71 : decode cX5_parted 71 = .ok (.getfield 68, 3) := fo_180 (fw_get da_cX5_parted_2 4 rfl)
theorem dX5_parted_74 : decode cX5_parted 74 = .ok (.iload 4, 2) := fo_21 (fw_get da_cX5_parted_2 5 rfl)
theorem dX5_parted_76 : decode cX5_parted 76 = .ok (.iaload, 1) := fo_46 (fw_get da_cX5_parted_2 6 rfl)
theorem dX5_parted_77 : decode cX5_parted 77 = .ok (.iconst 1, 1) := fo_4 (fw_get da_cX5_parted_2 7 rfl)
theorem dX5_parted_78 : decode cX5_parted 78 = .ok (.iadd, 1) := fo_96 (fw_get da_cX5_parted_2 8 rfl)
theorem dX5_parted_79 : decode cX5_parted 79 = .ok (.aload_n 0, 1) := fo_42 (fw_get da_cX5_parted_2 9 rfl)
theorem dX5_parted_80 : decode cX5_parted 80 = .ok (.getfield 68, 3) := fo_180 (fw_get da_cX5_parted_2 10 rfl)
theorem dX5_parted_83 : decode cX5_parted 83 = .ok (.iload_n 3, 1) := fo_29 (fw_get da_cX5_parted_2 11 rfl)
theorem dX5_parted_84 : decode cX5_parted 84 = .ok (.iaload, 1) := fo_46 (fw_get da_cX5_parted_2 12 rfl)
theorem dX5_parted_85 : decode cX5_parted 85 = .ok (.if_icmp .ge 18, 3) := fo_162 (fw_get da_cX5_parted_2 13 rfl) (by decide +kernel)
theorem dX5_parted_88 : decode cX5_parted 88 = .ok (.aload_n 0, 1) := fo_42 (fw_get da_cX5_parted_2 14 rfl)
theorem dX5_parted_89 : decode cX5_parted 89 = .ok (.getfield 68, 3) := fo_180 (fw_get da_cX5_parted_2 15 rfl)
theorem dX5_parted_92 : decode cX5_parted 92 = .ok (.iload_n 3, 1) := fo_29 (fw_get da_cX5_parted_2 16 rfl)
theorem dX5_parted_93 : decode cX5_parted 93 = .ok (.aload_n 0, 1) := fo_42 (fw_get da_cX5_parted_2 17 rfl)
theorem dX5_parted_94 : decode cX5_parted 94 = .ok (.getfield 68, 3) := fo_180 (fw_get da_cX5_parted_2 18 rfl)
theorem dX5_parted_97 : decode cX5_parted 97 = .ok (.iload 4, 2) := fo_21 (fw_get da_cX5_parted_2 19 rfl)
def dt_cX5_parted_3 : List (Nat × Nat × Nat × Nat) := [(99, 46, 0, 0), (100, 4, 0, 0), (101, 96, 0, 0), (102, 79, 0, 0), (103, 132, 2, 1025), (106, 167, 2, 65484), (109, 132, 2, 1023), (112, 167, 2, 65455), (115, 42, 0, 0), (116, 180, 2, 68), (119, 27, 0, 0), (120, 46, 0, 0), (121, 172, 0, 0)]
theorem da_cX5_parted_3 : fw dt_cX5_parted_3 0 cX5_parted.data.toList = true := by decide +kernel
theorem dX5_parted_99 : decode cX5_parted 99 = .ok (.iaload, 1) := fo_46 (fw_get da_cX5_parted_3 0 rfl)
theorem dX5_parted_100 : decode cX5_parted 100 = .ok (.iconst 1, 1) := fo_4 (fw_get da_cX5_parted_3 1 rfl)
theorem dX5_parted_101 : decode cX5_parted 101 = .ok (.iadd, 1) := fo_96 (fw_get da_cX5_parted_3 2 rfl)
theorem dX5_parted_102 : decode cX5_parted 102 = .ok (.iastore, 1) := fo_79 (fw_get da_cX5_parted_3 3 rfl)
theorem dX5_parted_103 : decode cX5_parted 103 = .ok (.iinc 4 1, 3) := fo_132 (fw_get da_cX5_parted_3 4 rfl) rfl (by decide +kernel)
theorem dX5_parted_106 : decode cX5_parted 106 = .ok (.goto (-52), 3) := fo_167 (fw_get da_cX5_parted_3 5 rfl) (by decide +kernel)
theorem dX5_parted_109 : decode cX5_parted 109 = .ok (.iinc 3 (-1), 3) := fo_132 (fw_get da_cX5_parted_3 6 rfl) rfl (by decide +kernel)
theorem dX5_parted_112 : decode cX5_parted 112 = .ok (.goto (-81), 3) := fo_167 (fw_get da_cX5_parted_3 7 rfl) (by decide +kernel)
theorem dX5_parted_115 : decode cX5_parted 115 = .ok (.aload_n 0, 1) := fo_42 (fw_get da_cX5_parted_3 8 rfl)
theorem dX5_parted_116 : decode cX5_parted 116 = .ok (.getfield 68, 3) := fo_180 (fw_get da_cX5_parted_3 9 rfl)
theorem dX5_parted_119 : decode cX5_parted 119 = .ok (.iload_n 1, 1) := fo_27 (fw_get da_cX5_parted_3 10 rfl)
theorem dX5_parted_120 : decode cX5_parted 120 = .ok (.iaload, 1) := fo_46 (fw_get da_cX5_parted_3 11 rfl)
theorem dX5_parted_121 : decode cX5_parted 121 = .ok (.ireturn, 1) := fo_172 (fw_get da_cX5_parted_3 12 rfl)
def dt_cX5_laysNumbers_0 : List (Nat × Nat × Nat × Nat) := [(0, 3, 0, 0), (1, 60, 0, 0), (2, 3, 0, 0), (3, 61, 0, 0), (4, 28, 0, 0), (5, 42, 0, 0), (6, 180, 2, 84), (9, 162, 2, 76), (12, 2, 0, 0), (13, 62, 0, 0), (14, 3, 0, 0), (15, 54, 1, 4), (17, 21, 1, 4), (19, 28, 0, 0), (20, 162, 2, 37), (23, 29, 0, 0), (24, 156, 2, 33), (27, 42, 0, 0), (28, 180, 2, 7), (31, 21, 1, 4)]
theorem da_cX5_laysNumbers_0 : fw dt_cX5_laysNumbers_0 0 cX5_laysNumbers.data.toList = true := by decide +kernel
theorem dX5_laysNumbers_0 : decode cX5_laysNumbers 0 = .ok (.iconst 0, 1) := fo_3 (fw_get da_cX5_laysNumbers_0 0 rfl)
theorem dX5_laysNumbers_1 : decode cX5_laysNumbers 1 = .ok (.istore_n 1, 1) := fo_60 (fw_get da_cX5_laysNumbers_0 1 rfl)
theorem dX5_laysNumbers_2 : decode cX5_laysNumbers 2 = .ok (.iconst 0, 1) := fo_3 (fw_get da_cX5_laysNumbers_0 2 rfl)
theorem dX5_laysNumbers_3 : decode cX5_laysNumbers 3 = .ok (.istore_n 2, 1) := fo_61 (fw_get da_cX5_laysNumbers_0 3 rfl)
theorem dX5_laysNumbers_4 : decode cX5_laysNumbers 4 = .ok (.iload_n 2, 1) := fo_28 (fw_get da_cX5_laysNumbers_0 4 rfl)
theorem dX5_laysNumbers_5 : decode cX5_laysNumbers 5 = .ok (.aload_n 0, 1) := fo_42 (fw_get da_cX5_laysNumbers_0 5 rfl)
theorem dX5_laysNumbers_6 : decode cX5_laysNumbers 6 = .ok (.getfield 84, 3) := fo_180 (fw_get da_cX5_laysNumbers_0 6 rfl)
theorem dX5_laysNumbers_9 : decode cX5_laysNumbers 9 = .ok (.if_icmp .ge 76, 3) := fo_162 (fw_get da_cX5_laysNumbers_0 7 rfl) (by decide +kernel)
theorem dX5_laysNumbers_12 : decode cX5_laysNumbers 12 = .ok (.iconst (-1), 1) := fo_2 (fw_get da_cX5_laysNumbers_0 8 rfl)
theorem dX5_laysNumbers_13 : decode cX5_laysNumbers 13 = .ok (.istore_n 3, 1) := fo_62 (fw_get da_cX5_laysNumbers_0 9 rfl)
theorem dX5_laysNumbers_14 : decode cX5_laysNumbers 14 = .ok (.iconst 0, 1) := fo_3 (fw_get da_cX5_laysNumbers_0 10 rfl)
theorem dX5_laysNumbers_15 : decode cX5_laysNumbers 15 = .ok (.istore 4, 2) := fo_54 (fw_get da_cX5_laysNumbers_0 11 rfl)
theorem dX5_laysNumbers_17 : decode cX5_laysNumbers 17 = .ok (.iload 4, 2) := fo_21 (fw_get da_cX5_laysNumbers_0 12 rfl)
theorem dX5_laysNumbers_19 : decode cX5_laysNumbers 19 = .ok (.iload_n 2, 1) := fo_28 (fw_get da_cX5_laysNumbers_0 13 rfl)
theorem dX5_laysNumbers_20 : decode cX5_laysNumbers 20 = .ok (.if_icmp .ge 37, 3) := fo_162 (fw_get da_cX5_laysNumbers_0 14 rfl) (by decide +kernel)
theorem dX5_laysNumbers_23 : decode cX5_laysNumbers 23 = .ok (.iload_n 3, 1) := fo_29 (fw_get da_cX5_laysNumbers_0 15 rfl)
theorem dX5_laysNumbers_24 : decode cX5_laysNumbers 24 = .ok (.ifCond .ge 33, 3) := fo_156 (fw_get da_cX5_laysNumbers_0 16 rfl) (by decide +kernel)
theorem dX5_laysNumbers_27 : decode cX5_laysNumbers 27 = .ok (.aload_n 0, 1) := fo_42 (fw_get da_cX5_laysNumbers_0 17 rfl)
theorem dX5_laysNumbers_28 : decode cX5_laysNumbers 28 = .ok (.getfield 7, 3) := fo_180 (fw_get da_cX5_laysNumbers_0 18 rfl)
theorem dX5_laysNumbers_31 : decode cX5_laysNumbers 31 = .ok (.iload 4, 2) := fo_21 (fw_get da_cX5_laysNumbers_0 19 rfl)
def dt_cX5_laysNumbers_1 : List (Nat × Nat × Nat × Nat) := [(33, 46, 0, 0), (34, 42, 0, 0), (35, 180, 2, 7), (38, 28, 0, 0), (39, 46, 0, 0), (40, 160, 2, 11), (43, 42, 0, 0), (44, 180, 2, 71), (47, 21, 1, 4), (49, 46, 0, 0), (50, 62, 0, 0), (51, 132, 2, 1025), (54, 167, 2, 65499), (57, 42, 0, 0), (58, 180, 2, 71), (61, 28, 0, 0), (62, 29, 0, 0), (63, 156, 2, 7), (66, 27, 0, 0), (67, 167, 2, 4)]
theorem da_cX5_laysNumbers_1 : fw dt_cX5_laysNumbers_1 0 cX5_laysNumbers.data.toList = true := by decide +kernel
theorem dX5_laysNumbers_33 : decode cX5_laysNumbers 33 = .ok (.iaload, 1) := fo_46 (fw_get da_cX5_laysNumbers_1 0 rfl)
theorem dX5_laysNumbers_34 : decode cX5_laysNumbers 34 = .ok (.aload_n 0, 1) := fo_42 (fw_get da_cX5_laysNumbers_1 1 rfl)
theorem dX5_laysNumbers_35 : decode cX5_laysNumbers 35 = .ok (.getfield 7, 3) := fo_180 (fw_get da_cX5_laysNumbers_1 2 rfl)
theorem dX5_laysNumbers_38 : decode cX5_laysNumbers 38 = .ok (.iload_n 2, 1) := fo_28 (fw_get da_cX5_laysNumbers_1 3 rfl)
theorem dX5_laysNumbers_39 : decode cX5_laysNumbers 39 = .ok (.iaload, 1) := fo_46 (fw_get da_cX5_laysNumbers_1 4 rfl)
theorem dX5_laysNumbers_40 : decode cX5_laysNumbers 40 = .ok (.if_icmp .ne 11, 3) := fo_160 (fw_get da_cX5_laysNumbers_1 5 rfl) (by decide +kernel)
theorem dX5_laysNumbers_43 : decode cX5_laysNumbers 43 = .ok (.aload_n 0, 1) := fo_42 (fw_get da_cX5_laysNumbers_1 6 rfl)
theorem dX5_laysNumbers_44 : decode cX5_laysNumbers 44 = .ok (.getfield 71, 3) := fo_180 (fw_get da_cX5_laysNumbers_1 7 rfl)
theorem dX5_laysNumbers_47 : decode cX5_laysNumbers 47 = .ok (.iload 4, 2) := fo_21 (fw_get da_cX5_laysNumbers_1 8 rfl)
theorem dX5_laysNumbers_49 : decode cX5_laysNumbers 49 = .ok (.iaload, 1) := fo_46 (fw_get da_cX5_laysNumbers_1 9 rfl)
theorem dX5_laysNumbers_50 : decode cX5_laysNumbers 50 = .ok (.istore_n 3, 1) := fo_62 (fw_get da_cX5_laysNumbers_1 10 rfl)
theorem dX5_laysNumbers_51 : decode cX5_laysNumbers 51 = .ok (.iinc 4 1, 3) := fo_132 (fw_get da_cX5_laysNumbers_1 11 rfl) rfl (by decide +kernel)
theorem dX5_laysNumbers_54 : decode cX5_laysNumbers 54 = .ok (.goto (-37), 3) := fo_167 (fw_get da_cX5_laysNumbers_1 12 rfl) (by decide +kernel)
theorem dX5_laysNumbers_57 : decode cX5_laysNumbers 57 = .ok (.aload_n 0, 1) := fo_42 (fw_get da_cX5_laysNumbers_1 13 rfl)
theorem dX5_laysNumbers_58 : decode cX5_laysNumbers 58 = .ok (.getfield 71, 3) := fo_180 (fw_get da_cX5_laysNumbers_1 14 rfl)
theorem dX5_laysNumbers_61 : decode cX5_laysNumbers 61 = .ok (.iload_n 2, 1) := fo_28 (fw_get da_cX5_laysNumbers_1 15 rfl)
theorem dX5_laysNumbers_62 : decode cX5_laysNumbers 62 = .ok (.iload_n 3, 1) := fo_29 (fw_get da_cX5_laysNumbers_1 16 rfl)
theorem dX5_laysNumbers_63 : decode cX5_laysNumbers 63 = .ok (.ifCond .ge 7, 3) := fo_156 (fw_get da_cX5_laysNumbers_1 17 rfl) (by decide +kernel)
theorem dX5_laysNumbers_66 : decode cX5_laysNumbers 66 = .ok (.iload_n 1, 1) := fo_27 (fw_get da_cX5_laysNumbers_1 18 rfl)
theorem dX5_laysNumbers_67 : decode cX5_laysNumbers 67 = .ok (.goto 4, 3) := fo_167 (fw_get da_cX5_laysNumbers_1 19 rfl) (by decide +kernel)
def dt_cX5_laysNumbers_2 : List (Nat × Nat × Nat × Nat) := [(70, 29, 0, 0), (71, 79, 0, 0), (72, 29, 0, 0), (73, 156, 2, 6), (76, 132, 2, 257), (79, 132, 2, 513), (82, 167, 2, 65458), (85, 177, 0, 0)]
theorem da_cX5_laysNumbers_2 : fw dt_cX5_laysNumbers_2 0 cX5_laysNumbers.data.toList = true := by decide +kernel
theorem dX5_laysNumbers_70 : decode cX5_laysNumbers 70 = .ok (.iload_n 3, 1) := fo_29 (fw_get da_cX5_laysNumbers_2 0 rfl)
theorem dX5_laysNumbers_71 : decode cX5_laysNumbers 71 = .ok (.iastore, 1) := fo_79 (fw_get da_cX5_laysNumbers_2 1 rfl)
theorem dX5_laysNumbers_72 : decode cX5_laysNumbers 72 = .ok (.iload_n 3, 1) := fo_29 (fw_get da_cX5_laysNumbers_2 2 rfl)
theorem dX5_laysNumbers_73 : decode cX5_laysNumbers 73 = .ok (.ifCond .ge 6, 3) := fo_156 (fw_get da_cX5_laysNumbers_2 3 rfl) (by decide +kernel)
theorem dX5_laysNumbers_76 : decode cX5_laysNumbers 76 = .ok (.iinc 1 1, 3) := fo_132 (fw_get da_cX5_laysNumbers_2 4 rfl) rfl (by decide +kernel)
theorem dX5_laysNumbers_79 : decode cX5_laysNumbers 79 = .ok (.iinc 2 1, 3) := fo_132 (fw_get da_cX5_laysNumbers_2 5 rfl) rfl (by decide +kernel)
theorem dX5_laysNumbers_82 : decode cX5_laysNumbers 82 = .ok (.goto (-78), 3) := fo_167 (fw_get da_cX5_laysNumbers_2 6 rfl) (by decide +kernel)
theorem dX5_laysNumbers_85 : decode cX5_laysNumbers 85 = .ok (.return_, 1) := fo_177 (fw_get da_cX5_laysNumbers_2 7 rfl)
def dt_cX5_begins_0 : List (Nat × Nat × Nat × Nat) := [(0, 3, 0, 0), (1, 60, 0, 0), (2, 27, 0, 0), (3, 42, 0, 0), (4, 180, 2, 84), (7, 162, 2, 16), (10, 42, 0, 0), (11, 180, 2, 74), (14, 27, 0, 0), (15, 3, 0, 0), (16, 79, 0, 0), (17, 132, 2, 257), (20, 167, 2, 65518), (23, 42, 0, 0), (24, 3, 0, 0), (25, 181, 2, 210), (28, 177, 0, 0)]
theorem da_cX5_begins_0 : fw dt_cX5_begins_0 0 cX5_begins.data.toList = true := by decide +kernel
theorem dX5_begins_0 : decode cX5_begins 0 = .ok (.iconst 0, 1) := fo_3 (fw_get da_cX5_begins_0 0 rfl)
theorem dX5_begins_1 : decode cX5_begins 1 = .ok (.istore_n 1, 1) := fo_60 (fw_get da_cX5_begins_0 1 rfl)
theorem dX5_begins_2 : decode cX5_begins 2 = .ok (.iload_n 1, 1) := fo_27 (fw_get da_cX5_begins_0 2 rfl)
theorem dX5_begins_3 : decode cX5_begins 3 = .ok (.aload_n 0, 1) := fo_42 (fw_get da_cX5_begins_0 3 rfl)
theorem dX5_begins_4 : decode cX5_begins 4 = .ok (.getfield 84, 3) := fo_180 (fw_get da_cX5_begins_0 4 rfl)
theorem dX5_begins_7 : decode cX5_begins 7 = .ok (.if_icmp .ge 16, 3) := fo_162 (fw_get da_cX5_begins_0 5 rfl) (by decide +kernel)
theorem dX5_begins_10 : decode cX5_begins 10 = .ok (.aload_n 0, 1) := fo_42 (fw_get da_cX5_begins_0 6 rfl)
theorem dX5_begins_11 : decode cX5_begins 11 = .ok (.getfield 74, 3) := fo_180 (fw_get da_cX5_begins_0 7 rfl)
theorem dX5_begins_14 : decode cX5_begins 14 = .ok (.iload_n 1, 1) := fo_27 (fw_get da_cX5_begins_0 8 rfl)
theorem dX5_begins_15 : decode cX5_begins 15 = .ok (.iconst 0, 1) := fo_3 (fw_get da_cX5_begins_0 9 rfl)
theorem dX5_begins_16 : decode cX5_begins 16 = .ok (.iastore, 1) := fo_79 (fw_get da_cX5_begins_0 10 rfl)
theorem dX5_begins_17 : decode cX5_begins 17 = .ok (.iinc 1 1, 3) := fo_132 (fw_get da_cX5_begins_0 11 rfl) rfl (by decide +kernel)
theorem dX5_begins_20 : decode cX5_begins 20 = .ok (.goto (-18), 3) := fo_167 (fw_get da_cX5_begins_0 12 rfl) (by decide +kernel)
theorem dX5_begins_23 : decode cX5_begins 23 = .ok (.aload_n 0, 1) := fo_42 (fw_get da_cX5_begins_0 13 rfl)
theorem dX5_begins_24 : decode cX5_begins 24 = .ok (.iconst 0, 1) := fo_3 (fw_get da_cX5_begins_0 14 rfl)
theorem dX5_begins_25 : decode cX5_begins 25 = .ok (.putfield 210, 3) := fo_181 (fw_get da_cX5_begins_0 15 rfl)
theorem dX5_begins_28 : decode cX5_begins 28 = .ok (.return_, 1) := fo_177 (fw_get da_cX5_begins_0 16 rfl)
def dt_cX5_goesOn_0 : List (Nat × Nat × Nat × Nat) := [(0, 42, 0, 0), (1, 180, 2, 71), (4, 27, 0, 0), (5, 4, 0, 0), (6, 100, 0, 0), (7, 46, 0, 0), (8, 62, 0, 0), (9, 42, 0, 0), (10, 180, 2, 74), (13, 29, 0, 0), (14, 92, 0, 0), (15, 46, 0, 0), (16, 4, 0, 0), (17, 96, 0, 0), (18, 79, 0, 0), (19, 42, 0, 0), (20, 180, 2, 74), (23, 29, 0, 0), (24, 46, 0, 0), (25, 42, 0, 0)]
theorem da_cX5_goesOn_0 : fw dt_cX5_goesOn_0 0 cX5_goesOn.data.toList = true := by decide +kernel
theorem dX5_goesOn_0 : decode cX5_goesOn 0 = .ok (.aload_n 0, 1) := fo_42 (fw_get da_cX5_goesOn_0 0 rfl)
theorem dX5_goesOn_1 : decode cX5_goesOn 1 = .ok (.getfield 71, 3) := fo_180 (fw_get da_cX5_goesOn_0 1 rfl)
theorem dX5_goesOn_4 : decode cX5_goesOn 4 = .ok (.iload_n 1, 1) := fo_27 (fw_get da_cX5_goesOn_0 2 rfl)
theorem dX5_goesOn_5 : decode cX5_goesOn 5 = .ok (.iconst 1, 1) := fo_4 (fw_get da_cX5_goesOn_0 3 rfl)
theorem dX5_goesOn_6 : decode cX5_goesOn 6 = .ok (.isub, 1) := fo_100 (fw_get da_cX5_goesOn_0 4 rfl)
theorem dX5_goesOn_7 : decode cX5_goesOn 7 = .ok (.iaload, 1) := fo_46 (fw_get da_cX5_goesOn_0 5 rfl)
theorem dX5_goesOn_8 : decode cX5_goesOn 8 = .ok (.istore_n 3, 1) := fo_62 (fw_get da_cX5_goesOn_0 6 rfl)
theorem dX5_goesOn_9 : decode cX5_goesOn 9 = .ok (.aload_n 0, 1) := fo_42 (fw_get da_cX5_goesOn_0 7 rfl)
theorem dX5_goesOn_10 : decode cX5_goesOn 10 = .ok (.getfield 74, 3) := fo_180 (fw_get da_cX5_goesOn_0 8 rfl)
theorem dX5_goesOn_13 : decode cX5_goesOn 13 = .ok (.iload_n 3, 1) := fo_29 (fw_get da_cX5_goesOn_0 9 rfl)
theorem dX5_goesOn_14 : decode cX5_goesOn 14 = .ok (.dup2, 1) := fo_92 (fw_get da_cX5_goesOn_0 10 rfl)
theorem dX5_goesOn_15 : decode cX5_goesOn 15 = .ok (.iaload, 1) := fo_46 (fw_get da_cX5_goesOn_0 11 rfl)
theorem dX5_goesOn_16 : decode cX5_goesOn 16 = .ok (.iconst 1, 1) := fo_4 (fw_get da_cX5_goesOn_0 12 rfl)
theorem dX5_goesOn_17 : decode cX5_goesOn 17 = .ok (.iadd, 1) := fo_96 (fw_get da_cX5_goesOn_0 13 rfl)
theorem dX5_goesOn_18 : decode cX5_goesOn 18 = .ok (.iastore, 1) := fo_79 (fw_get da_cX5_goesOn_0 14 rfl)
theorem dX5_goesOn_19 : decode cX5_goesOn 19 = .ok (.aload_n 0, 1) := fo_42 (fw_get da_cX5_goesOn_0 15 rfl)
theorem dX5_goesOn_20 : decode cX5_goesOn 20 = .ok (.getfield 74, 3) := fo_180 (fw_get da_cX5_goesOn_0 16 rfl)
theorem dX5_goesOn_23 : decode cX5_goesOn 23 = .ok (.iload_n 3, 1) := fo_29 (fw_get da_cX5_goesOn_0 17 rfl)
theorem dX5_goesOn_24 : decode cX5_goesOn 24 = .ok (.iaload, 1) := fo_46 (fw_get da_cX5_goesOn_0 18 rfl)
theorem dX5_goesOn_25 : decode cX5_goesOn 25 = .ok (.aload_n 0, 1) := fo_42 (fw_get da_cX5_goesOn_0 19 rfl)
def dt_cX5_goesOn_1 : List (Nat × Nat × Nat × Nat) := [(26, 180, 2, 210), (29, 164, 2, 13), (32, 42, 0, 0), (33, 42, 0, 0), (34, 180, 2, 74), (37, 29, 0, 0), (38, 46, 0, 0), (39, 181, 2, 210), (42, 5, 0, 0), (43, 42, 0, 0), (44, 180, 2, 210), (47, 104, 0, 0), (48, 27, 0, 0), (49, 28, 0, 0), (50, 100, 0, 0), (51, 164, 2, 7), (54, 4, 0, 0), (55, 167, 2, 4), (58, 3, 0, 0), (59, 172, 0, 0)]
theorem da_cX5_goesOn_1 : fw dt_cX5_goesOn_1 0 cX5_goesOn.data.toList = true := by decide +kernel
theorem dX5_goesOn_26 : decode cX5_goesOn 26 = .ok (.getfield 210, 3) := fo_180 (fw_get da_cX5_goesOn_1 0 rfl)
theorem dX5_goesOn_29 : decode cX5_goesOn 29 = .ok (.if_icmp .le 13, 3) := fo_164 (fw_get da_cX5_goesOn_1 1 rfl) (by decide +kernel)
theorem dX5_goesOn_32 : decode cX5_goesOn 32 = .ok (.aload_n 0, 1) := fo_42 (fw_get da_cX5_goesOn_1 2 rfl)
theorem dX5_goesOn_33 : decode cX5_goesOn 33 = .ok (.aload_n 0, 1) := fo_42 (fw_get da_cX5_goesOn_1 3 rfl)
theorem dX5_goesOn_34 : decode cX5_goesOn 34 = .ok (.getfield 74, 3) := fo_180 (fw_get da_cX5_goesOn_1 4 rfl)
theorem dX5_goesOn_37 : decode cX5_goesOn 37 = .ok (.iload_n 3, 1) := fo_29 (fw_get da_cX5_goesOn_1 5 rfl)
theorem dX5_goesOn_38 : decode cX5_goesOn 38 = .ok (.iaload, 1) := fo_46 (fw_get da_cX5_goesOn_1 6 rfl)
theorem dX5_goesOn_39 : decode cX5_goesOn 39 = .ok (.putfield 210, 3) := fo_181 (fw_get da_cX5_goesOn_1 7 rfl)
theorem dX5_goesOn_42 : decode cX5_goesOn 42 = .ok (.iconst 2, 1) := fo_5 (fw_get da_cX5_goesOn_1 8 rfl)
theorem dX5_goesOn_43 : decode cX5_goesOn 43 = .ok (.aload_n 0, 1) := fo_42 (fw_get da_cX5_goesOn_1 9 rfl)
theorem dX5_goesOn_44 : decode cX5_goesOn 44 = .ok (.getfield 210, 3) := fo_180 (fw_get da_cX5_goesOn_1 10 rfl)
theorem dX5_goesOn_47 : decode cX5_goesOn 47 = .ok (.imul, 1) := fo_104 (fw_get da_cX5_goesOn_1 11 rfl)
theorem dX5_goesOn_48 : decode cX5_goesOn 48 = .ok (.iload_n 1, 1) := fo_27 (fw_get da_cX5_goesOn_1 12 rfl)
theorem dX5_goesOn_49 : decode cX5_goesOn 49 = .ok (.iload_n 2, 1) := fo_28 (fw_get da_cX5_goesOn_1 13 rfl)
theorem dX5_goesOn_50 : decode cX5_goesOn 50 = .ok (.isub, 1) := fo_100 (fw_get da_cX5_goesOn_1 14 rfl)
theorem dX5_goesOn_51 : decode cX5_goesOn 51 = .ok (.if_icmp .le 7, 3) := fo_164 (fw_get da_cX5_goesOn_1 15 rfl) (by decide +kernel)
theorem dX5_goesOn_54 : decode cX5_goesOn 54 = .ok (.iconst 1, 1) := fo_4 (fw_get da_cX5_goesOn_1 16 rfl)
theorem dX5_goesOn_55 : decode cX5_goesOn 55 = .ok (.goto 4, 3) := fo_167 (fw_get da_cX5_goesOn_1 17 rfl) (by decide +kernel)
theorem dX5_goesOn_58 : decode cX5_goesOn 58 = .ok (.iconst 0, 1) := fo_3 (fw_get da_cX5_goesOn_1 18 rfl)
theorem dX5_goesOn_59 : decode cX5_goesOn 59 = .ok (.ireturn, 1) := fo_172 (fw_get da_cX5_goesOn_1 19 rfl)
set_option maxRecDepth 20000 in
theorem ggX5_majorities_X5_laysNumbers : GoodIn wsX5_majorities wsX5_laysNumbers := goodIn_r _ [7, 2, 8, 9, 20, 21, 22, 23, 24, 25, 26, 27, 28, 29, 30, 31, 32, 33, 34, 35, 36, 37, 38, 39, 40, 41, 42, 43, 44, 45, 46, 47, 48, 49] rfl (by decide +kernel)
set_option maxRecDepth 20000 in
theorem gX5_majorities_X5_laysNumbers : GoodIn wsX5_majorities (wsV RX5 201 RX5 yX5_laysNumbers wsX5_laysNumbers) := goodIn_app (goodIn_r _ [3, 4, 5, 6] rfl (by decide +kernel)) ggX5_majorities_X5_laysNumbers
set_option maxRecDepth 20000 in
theorem ggX5_majorities_X5_begins : GoodIn wsX5_majorities wsX5_begins := goodIn_r _ [13, 2, 14, 15, 20, 21, 22, 23, 24, 25, 26, 27, 28, 29, 30, 31, 32, 33, 34, 35, 36, 37, 38, 39, 40, 41, 42, 43, 44, 45, 46, 47, 48, 49] rfl (by decide +kernel)
set_option maxRecDepth 20000 in
theorem gX5_majorities_X5_begins : GoodIn wsX5_majorities (wsV RX5 204 RX5 yX5_begins wsX5_begins) := goodIn_app (goodIn_r _ [10, 11, 12, 6] rfl (by decide +kernel)) ggX5_majorities_X5_begins
set_option maxRecDepth 20000 in
theorem ggX5_majorities_X5_goesOn : GoodIn wsX5_majorities wsX5_goesOn := goodIn_r _ [19, 9, 14, 15, 20, 21, 22, 23, 24, 25, 26, 27, 28, 29, 30, 31, 32, 33, 34, 35, 36, 37, 38, 39, 40, 41, 42, 43, 44, 45, 46, 47, 48, 49] rfl (by decide +kernel)
set_option maxRecDepth 20000 in
theorem gX5_majorities_X5_goesOn : GoodIn wsX5_majorities (wsV RX5 207 RX5 yX5_goesOn wsX5_goesOn) := goodIn_app (goodIn_r _ [16, 17, 18, 6] rfl (by decide +kernel)) ggX5_majorities_X5_goesOn
def dt_cX5_majorities_0 : List (Nat × Nat × Nat × Nat) := [(0, 42, 0, 0), (1, 3, 0, 0), (2, 181, 2, 77), (5, 42, 0, 0), (6, 182, 2, 201), (9, 3, 0, 0), (10, 60, 0, 0), (11, 3, 0, 0), (12, 61, 0, 0), (13, 28, 0, 0), (14, 42, 0, 0), (15, 180, 2, 84), (18, 162, 2, 43), (21, 42, 0, 0), (22, 182, 2, 204), (25, 28, 0, 0), (26, 4, 0, 0), (27, 96, 0, 0), (28, 62, 0, 0), (29, 29, 0, 0)]
theorem da_cX5_majorities_0 : fw dt_cX5_majorities_0 0 cX5_majorities.data.toList = true := by decide +kernel
theorem dX5_majorities_0 : decode cX5_majorities 0 = .ok (.aload_n 0, 1) := fo_42 (fw_get da_cX5_majorities_0 0 rfl)
theorem dX5_majorities_1 : decode cX5_majorities 1 = .ok (.iconst 0, 1) := fo_3 (fw_get da_cX5_majorities_0 1 rfl)
theorem dX5_majorities_2 : decode cX5_majorities 2 = .ok (.putfield 77, 3) := fo_181 (fw_get da_cX5_majorities_0 2 rfl)
theorem dX5_majorities_5 : decode cX5_majorities 5 = .ok (.aload_n 0, 1) := fo_42 (fw_get da_cX5_majorities_0 3 rfl)
theorem dX5_majorities_6 : decode cX5_majorities 6 = .ok (.invokevirtual 201, 3) := fo_182 (fw_get da_cX5_majorities_0 4 rfl)
theorem dX5_majorities_9 : decode cX5_majorities 9 = .ok (.iconst 0, 1) := fo_3 (fw_get da_cX5_majorities_0 5 rfl)
theorem dX5_majorities_10 : decode cX5_majorities 10 = .ok (.istore_n 1, 1) := fo_60 (fw_get da_cX5_majorities_0 6 rfl)
theorem dX5_majorities_11 : decode cX5_majorities 11 = .ok (.iconst 0, 1) := fo_3 (fw_get da_cX5_majorities_0 7 rfl)
theorem dX5_majorities_12 : decode cX5_majorities 12 = .ok (.istore_n 2, 1) := fo_61 (fw_get da_cX5_majorities_0 8 rfl)
theorem dX5_majorities_13 : decode cX5_majorities 13 = .ok (.iload_n 2, 1) := fo_28 (fw_get da_cX5_majorities_0 9 rfl)
theorem dX5_majorities_14 : decode cX5_majorities 14 = .ok (.aload_n 0, 1) := fo_42 (fw_get da_cX5_majorities_0 10 rfl)
theorem dX5_majorities_15 : decode cX5_majorities 15 = .ok (.getfield 84, 3) := fo_180 (fw_get da_cX5_majorities_0 11 rfl)
theorem dX5_majorities_18 : decode cX5_majorities 18 = .ok (.if_icmp .ge 43, 3) := fo_162 (fw_get da_cX5_majorities_0 12 rfl) (by decide +kernel)
theorem dX5_majorities_21 : decode cX5_majorities 21 = .ok (.aload_n 0, 1) := fo_42 (fw_get da_cX5_majorities_0 13 rfl)
theorem dX5_majorities_22 : decode cX5_majorities 22 = .ok (.invokevirtual 204, 3) := fo_182 (fw_get da_cX5_majorities_0 14 rfl)
theorem dX5_majorities_25 : decode cX5_majorities 25 = .ok (.iload_n 2, 1) := fo_28 (fw_get da_cX5_majorities_0 15 rfl)
theorem dX5_majorities_26 : decode cX5_majorities 26 = .ok (.iconst 1, 1) := fo_4 (fw_get da_cX5_majorities_0 16 rfl)
theorem dX5_majorities_27 : decode cX5_majorities 27 = .ok (.iadd, 1) := fo_96 (fw_get da_cX5_majorities_0 17 rfl)
theorem dX5_majorities_28 : decode cX5_majorities 28 = .ok (.istore_n 3, 1) := fo_62 (fw_get da_cX5_majorities_0 18 rfl)
theorem dX5_majorities_29 : decode cX5_majorities 29 = .ok (.iload_n 3, 1) := fo_29 (fw_get da_cX5_majorities_0 19 rfl)
def dt_cX5_majorities_1 : List (Nat × Nat × Nat × Nat) := [(30, 42, 0, 0), (31, 180, 2, 84), (34, 163, 2, 21), (37, 42, 0, 0), (38, 29, 0, 0), (39, 28, 0, 0), (40, 182, 2, 207), (43, 153, 2, 6), (46, 132, 2, 257), (49, 132, 2, 769), (52, 167, 2, 65513), (55, 132, 2, 513), (58, 167, 2, 65491), (61, 27, 0, 0), (62, 172, 0, 0)]
theorem da_cX5_majorities_1 : fw dt_cX5_majorities_1 0 cX5_majorities.data.toList = true := by decide +kernel
theorem dX5_majorities_30 : decode cX5_majorities 30 = .ok (.aload_n 0, 1) := fo_42 (fw_get da_cX5_majorities_1 0 rfl)
theorem dX5_majorities_31 : decode cX5_majorities 31 = .ok (.getfield 84, 3) := fo_180 (fw_get da_cX5_majorities_1 1 rfl)
theorem dX5_majorities_34 : decode cX5_majorities 34 = .ok (.if_icmp .gt 21, 3) := fo_163 (fw_get da_cX5_majorities_1 2 rfl) (by decide +kernel)
theorem dX5_majorities_37 : decode cX5_majorities 37 = .ok (.aload_n 0, 1) := fo_42 (fw_get da_cX5_majorities_1 3 rfl)
theorem dX5_majorities_38 : decode cX5_majorities 38 = .ok (.iload_n 3, 1) := fo_29 (fw_get da_cX5_majorities_1 4 rfl)
theorem dX5_majorities_39 : decode cX5_majorities 39 = .ok (.iload_n 2, 1) := fo_28 (fw_get da_cX5_majorities_1 5 rfl)
theorem dX5_majorities_40 : decode cX5_majorities 40 = .ok (.invokevirtual 207, 3) := fo_182 (fw_get da_cX5_majorities_1 6 rfl)
theorem dX5_majorities_43 : decode cX5_majorities 43 = .ok (.ifCond .eq 6, 3) := fo_153 (fw_get da_cX5_majorities_1 7 rfl) (by decide +kernel)
theorem dX5_majorities_46 : decode cX5_majorities 46 = .ok (.iinc 1 1, 3) := fo_132 (fw_get da_cX5_majorities_1 8 rfl) rfl (by decide +kernel)
theorem dX5_majorities_49 : decode cX5_majorities 49 = .ok (.iinc 3 1, 3) := fo_132 (fw_get da_cX5_majorities_1 9 rfl) rfl (by decide +kernel)
theorem dX5_majorities_52 : decode cX5_majorities 52 = .ok (.goto (-23), 3) := fo_167 (fw_get da_cX5_majorities_1 10 rfl) (by decide +kernel)
theorem dX5_majorities_55 : decode cX5_majorities 55 = .ok (.iinc 2 1, 3) := fo_132 (fw_get da_cX5_majorities_1 11 rfl) rfl (by decide +kernel)
theorem dX5_majorities_58 : decode cX5_majorities 58 = .ok (.goto (-45), 3) := fo_167 (fw_get da_cX5_majorities_1 12 rfl) (by decide +kernel)
theorem dX5_majorities_61 : decode cX5_majorities 61 = .ok (.iload_n 1, 1) := fo_27 (fw_get da_cX5_majorities_1 13 rfl)
theorem dX5_majorities_62 : decode cX5_majorities 62 = .ok (.ireturn, 1) := fo_172 (fw_get da_cX5_majorities_1 14 rfl)

