theorem nmX5 : ∀ a, a < 30 → ∀ b, b < 30 → a ≠ b → (TX5 a).2.1 ≠ (TX5 b).2.1 := by decide +kernel
theorem tyX5_ok : ∀ k, k < 30 → parseFieldDescriptor (TX5 k).2.2.1 = some (tyX5 k) := by decide +kernel
abbrev cX5_within : ByteArray := prog_7_method_3_code
def yX5_within : MethodName := ⟨RX5, "within", "(III)Z"⟩
abbrev cX5_isValue : ByteArray := prog_7_method_4_code
def yX5_isValue : MethodName := ⟨RX5, "isValue", "(I)Z"⟩
abbrev cX5_isPlace : ByteArray := prog_7_method_5_code
def yX5_isPlace : MethodName := ⟨RX5, "isPlace", "(I)Z"⟩
abbrev cX5_isRange : ByteArray := prog_7_method_6_code
def yX5_isRange : MethodName := ⟨RX5, "isRange", "(II)Z"⟩
abbrev cX5_isShare : ByteArray := prog_7_method_7_code
def yX5_isShare : MethodName := ⟨RX5, "isShare", "(II)Z"⟩
abbrev cX5_feed : ByteArray := prog_7_method_20_code
def yX5_feed : MethodName := ⟨RX5, "feed", "(II)I"⟩
abbrev cX5_end : ByteArray := prog_7_method_21_code
def yX5_end : MethodName := ⟨RX5, "end", "(I)I"⟩
abbrev cX5_slots : ByteArray := prog_7_method_22_code
def yX5_slots : MethodName := ⟨RX5, "slots", "(I)I"⟩
abbrev cX5_insert : ByteArray := prog_7_method_30_code
def yX5_insert : MethodName := ⟨RX5, "insert", "(II)I"⟩
abbrev cX5_remove : ByteArray := prog_7_method_31_code
def yX5_remove : MethodName := ⟨RX5, "remove", "(I)I"⟩
abbrev cX5_at : ByteArray := prog_7_method_32_code
def yX5_at : MethodName := ⟨RX5, "at", "(I)I"⟩
abbrev cX5_count : ByteArray := prog_7_method_34_code
def yX5_count : MethodName := ⟨RX5, "count", "(III)I"⟩
abbrev cX5_place : ByteArray := prog_7_method_35_code
def yX5_place : MethodName := ⟨RX5, "place", "(II)I"⟩
abbrev cX5_values : ByteArray := prog_7_method_36_code
def yX5_values : MethodName := ⟨RX5, "values", "()I"⟩
abbrev cX5_isEnough : ByteArray := prog_7_method_55_code
def yX5_isEnough : MethodName := ⟨RX5, "isEnough", "(II)Z"⟩
abbrev cX5_majorityOf : ByteArray := prog_7_method_60_code
def yX5_majorityOf : MethodName := ⟨RX5, "majorityOf", "(II)I"⟩
abbrev cX5_majority : ByteArray := prog_7_method_61_code
def yX5_majority : MethodName := ⟨RX5, "majority", "(II)I"⟩
abbrev cX5_margin : ByteArray := prog_7_method_62_code
def yX5_margin : MethodName := ⟨RX5, "margin", "(III)I"⟩
abbrev cX5_longest : ByteArray := prog_7_method_65_code
def yX5_longest : MethodName := ⟨RX5, "longest", "(IIII)I"⟩
abbrev cX5_cut : ByteArray := prog_7_method_68_code
def yX5_cut : MethodName := ⟨RX5, "cut", "(II)I"⟩
abbrev cX5_would : ByteArray := prog_7_method_78_code
def yX5_would : MethodName := ⟨RX5, "would", "(IIII)I"⟩
def wsX5_within : List Cond := .code yX5_within cX5_within 3 (some .boolean) :: ([])
def wsX5_isValue : List Cond := .code yX5_isValue cX5_isValue 1 (some .boolean) :: ([.methodLink RX5 80 yX5_within, .static yX5_within, .initialized RX5, .code yX5_within cX5_within 3 (some .boolean)])
def wsX5_isPlace : List Cond := .code yX5_isPlace cX5_isPlace 2 (some .boolean) :: ([.fieldLink RX5 84 "MajorityIndexModel" "n" "I", .methodLink RX5 80 yX5_within, .static yX5_within, .initialized RX5, .code yX5_within cX5_within 3 (some .boolean)] ++ wsX50)
def wsX5_isRange : List Cond := .code yX5_isRange cX5_isRange 3 (some .boolean) :: ([.fieldLink RX5 84 "MajorityIndexModel" "n" "I"] ++ wsX50)
def wsX5_isShare : List Cond := .code yX5_isShare cX5_isShare 2 (some .boolean) :: ([.methodLink RX5 80 yX5_within, .static yX5_within, .initialized RX5, .code yX5_within cX5_within 3 (some .boolean)])
def wsX5_feed : List Cond := .code yX5_feed cX5_feed 3 (some .int) :: ([.fieldLink RX5 77 "MajorityIndexModel" "thrown" "I", .fieldLink RX5 84 "MajorityIndexModel" "n" "I", .fieldLink RX5 7 "MajorityIndexModel" "row" "[I"] ++ wsX50)
def wsX5_end : List Cond := .code yX5_end cX5_end 2 (some .int) :: ([.fieldLink RX5 77 "MajorityIndexModel" "thrown" "I", .fieldLink RX5 84 "MajorityIndexModel" "n" "I", .methodLink RX5 80 yX5_within, .static yX5_within, .initialized RX5, .code yX5_within cX5_within 3 (some .boolean)] ++ wsX50)
def wsX5_slots : List Cond := .code yX5_slots cX5_slots 3 (some .int) :: ([.fieldLink RX5 77 "MajorityIndexModel" "thrown" "I", .fieldLink RX5 13 "MajorityIndexModel" "slots" "I", .methodLink RX5 80 yX5_within, .static yX5_within, .initialized RX5, .code yX5_within cX5_within 3 (some .boolean)] ++ wsX50)
def wsX5_insert : List Cond := .code yX5_insert cX5_insert 4 (some .int) :: ([.fieldLink RX5 77 "MajorityIndexModel" "thrown" "I", .fieldLink RX5 84 "MajorityIndexModel" "n" "I", .fieldLink RX5 7 "MajorityIndexModel" "row" "[I", .methodLink RX5 80 yX5_within, .static yX5_within, .initialized RX5, .code yX5_within cX5_within 3 (some .boolean), .methodLink RX5 132 yX5_isValue, .static yX5_isValue, .code yX5_isValue cX5_isValue 1 (some .boolean)] ++ wsX50)
def wsX5_remove : List Cond := .code yX5_remove cX5_remove 4 (some .int) :: ([.fieldLink RX5 77 "MajorityIndexModel" "thrown" "I", .constant RX5 148 (-40000), .fieldLink RX5 7 "MajorityIndexModel" "row" "[I", .fieldLink RX5 84 "MajorityIndexModel" "n" "I", .methodLink RX5 128 yX5_isPlace, .instanceMethod yX5_isPlace, .selects RX5 yX5_isPlace yX5_isPlace, .initialized RX5, .code yX5_isPlace cX5_isPlace 2 (some .boolean), .methodLink RX5 80 yX5_within, .static yX5_within, .code yX5_within cX5_within 3 (some .boolean)] ++ wsX50)
def wsX5_at : List Cond := .code yX5_at cX5_at 2 (some .int) :: ([.fieldLink RX5 77 "MajorityIndexModel" "thrown" "I", .fieldLink RX5 7 "MajorityIndexModel" "row" "[I", .methodLink RX5 128 yX5_isPlace, .instanceMethod yX5_isPlace, .selects RX5 yX5_isPlace yX5_isPlace, .initialized RX5, .code yX5_isPlace cX5_isPlace 2 (some .boolean), .fieldLink RX5 84 "MajorityIndexModel" "n" "I", .methodLink RX5 80 yX5_within, .static yX5_within, .code yX5_within cX5_within 3 (some .boolean)] ++ wsX50)
def wsX5_count : List Cond := .code yX5_count cX5_count 4 (some .int) :: ([.fieldLink RX5 77 "MajorityIndexModel" "thrown" "I", .methodLink RX5 132 yX5_isValue, .static yX5_isValue, .initialized RX5, .code yX5_isValue cX5_isValue 1 (some .boolean), .methodLink RX5 80 yX5_within, .static yX5_within, .code yX5_within cX5_within 3 (some .boolean), .methodLink RX5 142 yX5_isRange, .instanceMethod yX5_isRange, .selects RX5 yX5_isRange yX5_isRange, .code yX5_isRange cX5_isRange 3 (some .boolean), .fieldLink RX5 84 "MajorityIndexModel" "n" "I", .methodLink RX5 149 yX5_times, .instanceMethod yX5_times, .selects RX5 yX5_times yX5_times, .code yX5_times cX5_times 6 (some .int), .fieldLink RX5 7 "MajorityIndexModel" "row" "[I"] ++ wsX50)
def wsX5_place : List Cond := .code yX5_place cX5_place 5 (some .int) :: ([.fieldLink RX5 77 "MajorityIndexModel" "thrown" "I", .fieldLink RX5 84 "MajorityIndexModel" "n" "I", .fieldLink RX5 7 "MajorityIndexModel" "row" "[I"] ++ wsX50)
def wsX5_values : List Cond := .code yX5_values cX5_values 3 (some .int) :: ([.fieldLink RX5 77 "MajorityIndexModel" "thrown" "I", .fieldLink RX5 84 "MajorityIndexModel" "n" "I", .fieldLink RX5 7 "MajorityIndexModel" "row" "[I", .methodLink RX5 149 yX5_times, .instanceMethod yX5_times, .selects RX5 yX5_times yX5_times, .initialized RX5, .code yX5_times cX5_times 6 (some .int)] ++ wsX50)
def wsX5_isEnough : List Cond := .code yX5_isEnough cX5_isEnough 3 (some .boolean) :: ([.fieldLink RX5 13 "MajorityIndexModel" "slots" "I"] ++ wsX50)
def wsX5_majorityOf : List Cond := .code yX5_majorityOf cX5_majorityOf 4 (some .int) :: ([.fieldLink RX5 7 "MajorityIndexModel" "row" "[I", .constant RX5 148 (-40000), .methodLink RX5 149 yX5_times, .instanceMethod yX5_times, .selects RX5 yX5_times yX5_times, .initialized RX5, .code yX5_times cX5_times 6 (some .int)] ++ wsX50)
def wsX5_majority : List Cond := .code yX5_majority cX5_majority 3 (some .int) :: ([.fieldLink RX5 77 "MajorityIndexModel" "thrown" "I", .constant RX5 148 (-40000), .methodLink RX5 142 yX5_isRange, .instanceMethod yX5_isRange, .selects RX5 yX5_isRange yX5_isRange, .initialized RX5, .code yX5_isRange cX5_isRange 3 (some .boolean), .fieldLink RX5 84 "MajorityIndexModel" "n" "I", .methodLink RX5 194 yX5_majorityOf, .instanceMethod yX5_majorityOf, .selects RX5 yX5_majorityOf yX5_majorityOf, .code yX5_majorityOf cX5_majorityOf 4 (some .int), .fieldLink RX5 7 "MajorityIndexModel" "row" "[I", .methodLink RX5 149 yX5_times, .instanceMethod yX5_times, .selects RX5 yX5_times yX5_times, .code yX5_times cX5_times 6 (some .int)] ++ wsX50)
def wsX5_margin : List Cond := .code yX5_margin cX5_margin 4 (some .int) :: ([.fieldLink RX5 77 "MajorityIndexModel" "thrown" "I", .constant RX5 148 (-40000), .methodLink RX5 132 yX5_isValue, .static yX5_isValue, .initialized RX5, .code yX5_isValue cX5_isValue 1 (some .boolean), .methodLink RX5 80 yX5_within, .static yX5_within, .code yX5_within cX5_within 3 (some .boolean), .methodLink RX5 142 yX5_isRange, .instanceMethod yX5_isRange, .selects RX5 yX5_isRange yX5_isRange, .code yX5_isRange cX5_isRange 3 (some .boolean), .fieldLink RX5 84 "MajorityIndexModel" "n" "I", .methodLink RX5 149 yX5_times, .instanceMethod yX5_times, .selects RX5 yX5_times yX5_times, .code yX5_times cX5_times 6 (some .int), .fieldLink RX5 7 "MajorityIndexModel" "row" "[I"] ++ wsX50)
def wsX5_longest : List Cond := .code yX5_longest cX5_longest 10 (some .int) :: ([.fieldLink RX5 77 "MajorityIndexModel" "thrown" "I", .fieldLink RX5 84 "MajorityIndexModel" "n" "I", .fieldLink RX5 7 "MajorityIndexModel" "row" "[I", .methodLink RX5 132 yX5_isValue, .static yX5_isValue, .initialized RX5, .code yX5_isValue cX5_isValue 1 (some .boolean), .methodLink RX5 80 yX5_within, .static yX5_within, .code yX5_within cX5_within 3 (some .boolean), .methodLink RX5 184 yX5_isShare, .static yX5_isShare, .code yX5_isShare cX5_isShare 2 (some .boolean)] ++ wsX50)
def wsX5_cut : List Cond := .code yX5_cut cX5_cut 6 (some .int) :: ([.fieldLink RX5 77 "MajorityIndexModel" "thrown" "I", .constant RX5 148 (-40000), .methodLink RX5 142 yX5_isRange, .instanceMethod yX5_isRange, .selects RX5 yX5_isRange yX5_isRange, .initialized RX5, .code yX5_isRange cX5_isRange 3 (some .boolean), .fieldLink RX5 84 "MajorityIndexModel" "n" "I", .methodLink RX5 194 yX5_majorityOf, .instanceMethod yX5_majorityOf, .selects RX5 yX5_majorityOf yX5_majorityOf, .code yX5_majorityOf cX5_majorityOf 4 (some .int), .fieldLink RX5 7 "MajorityIndexModel" "row" "[I", .methodLink RX5 149 yX5_times, .instanceMethod yX5_times, .selects RX5 yX5_times yX5_times, .code yX5_times cX5_times 6 (some .int)] ++ wsX50)
def wsX5_would_r1 : List Cond := [Cond.fieldLink RX5 77 "MajorityIndexModel" "thrown" "I", Cond.constant RX5 148 (-40000), Cond.fieldLink RX5 7 "MajorityIndexModel" "row" "[I", Cond.methodLink RX5 128 yX5_isPlace, Cond.instanceMethod yX5_isPlace, Cond.selects RX5 yX5_isPlace yX5_isPlace, Cond.initialized RX5, Cond.code yX5_isPlace cX5_isPlace 2 (some .boolean), Cond.fieldLink RX5 84 "MajorityIndexModel" "n" "I", Cond.methodLink RX5 80 yX5_within, Cond.static yX5_within, Cond.code yX5_within cX5_within 3 (some .boolean), Cond.methodLink RX5 132 yX5_isValue, Cond.static yX5_isValue, Cond.code yX5_isValue cX5_isValue 1 (some .boolean), Cond.methodLink RX5 142 yX5_isRange, Cond.instanceMethod yX5_isRange, Cond.selects RX5 yX5_isRange yX5_isRange, Cond.code yX5_isRange cX5_isRange 3 (some .boolean), Cond.methodLink RX5 194 yX5_majorityOf, Cond.instanceMethod yX5_majorityOf, Cond.selects RX5 yX5_majorityOf yX5_majorityOf, Cond.code yX5_majorityOf cX5_majorityOf 4 (some .int), Cond.methodLink RX5 149 yX5_times]
def wsX5_would_r2 : List Cond := [Cond.instanceMethod yX5_times, Cond.selects RX5 yX5_times yX5_times, Cond.code yX5_times cX5_times 6 (some .int)]
def wsX5_would : List Cond := .code yX5_would cX5_would 7 (some .int) :: ((wsX5_would_r1 ++ wsX5_would_r2) ++ wsX50)
def dt_cX5_within_0 : List (Nat × Instr × Nat) := [(0, .iload_n 0, 1), (1, .iload_n 1, 1), (2, .if_icmp .lt 12, 3), (5, .iload_n 0, 1), (6, .iload_n 2, 1), (7, .if_icmp .gt 7, 3), (10, .iconst 1, 1), (11, .goto 4, 3), (14, .iconst 0, 1), (15, .ireturn, 1)]
theorem da_cX5_within_0 : dk_all cX5_within dt_cX5_within_0 = true := by decide +kernel
theorem dX5_within_0 : decode cX5_within 0 = .ok (.iload_n 0, 1) := dk_get _ da_cX5_within_0 0 _ _ _ rfl
theorem dX5_within_1 : decode cX5_within 1 = .ok (.iload_n 1, 1) := dk_get _ da_cX5_within_0 1 _ _ _ rfl
theorem dX5_within_2 : decode cX5_within 2 = .ok (.if_icmp .lt 12, 3) := dk_get _ da_cX5_within_0 2 _ _ _ rfl
theorem dX5_within_5 : decode cX5_within 5 = .ok (.iload_n 0, 1) := dk_get _ da_cX5_within_0 3 _ _ _ rfl
theorem dX5_within_6 : decode cX5_within 6 = .ok (.iload_n 2, 1) := dk_get _ da_cX5_within_0 4 _ _ _ rfl
theorem dX5_within_7 : decode cX5_within 7 = .ok (.if_icmp .gt 7, 3) := dk_get _ da_cX5_within_0 5 _ _ _ rfl
theorem dX5_within_10 : decode cX5_within 10 = .ok (.iconst 1, 1) := dk_get _ da_cX5_within_0 6 _ _ _ rfl
theorem dX5_within_11 : decode cX5_within 11 = .ok (.goto 4, 3) := dk_get _ da_cX5_within_0 7 _ _ _ rfl
theorem dX5_within_14 : decode cX5_within 14 = .ok (.iconst 0, 1) := dk_get _ da_cX5_within_0 8 _ _ _ rfl
theorem dX5_within_15 : decode cX5_within 15 = .ok (.ireturn, 1) := dk_get _ da_cX5_within_0 9 _ _ _ rfl
set_option maxRecDepth 20000 in
theorem ggX5_isValue_X5_within : GoodIn wsX5_isValue wsX5_within := goodIn_r _ [4] rfl (by decide +kernel)
set_option maxRecDepth 20000 in
theorem gX5_isValue_X5_within : GoodIn wsX5_isValue (va_wsS RX5 80 yX5_within wsX5_within) := goodIn_app (goodIn_r _ [1, 2, 3] rfl (by decide +kernel)) ggX5_isValue_X5_within
def dt_cX5_isValue_0 : List (Nat × Instr × Nat) := [(0, .iload_n 0, 1), (1, .sipush (-32768), 3), (4, .sipush 32767, 3), (7, .invokestatic 80, 3), (10, .ireturn, 1)]
theorem da_cX5_isValue_0 : dk_all cX5_isValue dt_cX5_isValue_0 = true := by decide +kernel
theorem dX5_isValue_0 : decode cX5_isValue 0 = .ok (.iload_n 0, 1) := dk_get _ da_cX5_isValue_0 0 _ _ _ rfl
theorem dX5_isValue_1 : decode cX5_isValue 1 = .ok (.sipush (-32768), 3) := dk_get _ da_cX5_isValue_0 1 _ _ _ rfl
theorem dX5_isValue_4 : decode cX5_isValue 4 = .ok (.sipush 32767, 3) := dk_get _ da_cX5_isValue_0 2 _ _ _ rfl
theorem dX5_isValue_7 : decode cX5_isValue 7 = .ok (.invokestatic 80, 3) := dk_get _ da_cX5_isValue_0 3 _ _ _ rfl
theorem dX5_isValue_10 : decode cX5_isValue 10 = .ok (.ireturn, 1) := dk_get _ da_cX5_isValue_0 4 _ _ _ rfl
set_option maxRecDepth 20000 in
theorem ggX5_isPlace_X5_within : GoodIn wsX5_isPlace wsX5_within := goodIn_r _ [5] rfl (by decide +kernel)
set_option maxRecDepth 20000 in
theorem gX5_isPlace_X5_within : GoodIn wsX5_isPlace (va_wsS RX5 80 yX5_within wsX5_within) := goodIn_app (goodIn_r _ [2, 3, 4] rfl (by decide +kernel)) ggX5_isPlace_X5_within
def dt_cX5_isPlace_0 : List (Nat × Instr × Nat) := [(0, .iload_n 1, 1), (1, .iconst 0, 1), (2, .aload_n 0, 1), (3, .getfield 84, 3), (6, .iconst 1, 1), (7, .isub, 1), (8, .invokestatic 80, 3), (11, .ireturn, 1)]
theorem da_cX5_isPlace_0 : dk_all cX5_isPlace dt_cX5_isPlace_0 = true := by decide +kernel
theorem dX5_isPlace_0 : decode cX5_isPlace 0 = .ok (.iload_n 1, 1) := dk_get _ da_cX5_isPlace_0 0 _ _ _ rfl
theorem dX5_isPlace_1 : decode cX5_isPlace 1 = .ok (.iconst 0, 1) := dk_get _ da_cX5_isPlace_0 1 _ _ _ rfl
theorem dX5_isPlace_2 : decode cX5_isPlace 2 = .ok (.aload_n 0, 1) := dk_get _ da_cX5_isPlace_0 2 _ _ _ rfl
theorem dX5_isPlace_3 : decode cX5_isPlace 3 = .ok (.getfield 84, 3) := dk_get _ da_cX5_isPlace_0 3 _ _ _ rfl
theorem dX5_isPlace_6 : decode cX5_isPlace 6 = .ok (.iconst 1, 1) := dk_get _ da_cX5_isPlace_0 4 _ _ _ rfl
theorem dX5_isPlace_7 : decode cX5_isPlace 7 = .ok (.isub, 1) := dk_get _ da_cX5_isPlace_0 5 _ _ _ rfl
theorem dX5_isPlace_8 : decode cX5_isPlace 8 = .ok (.invokestatic 80, 3) := dk_get _ da_cX5_isPlace_0 6 _ _ _ rfl
theorem dX5_isPlace_11 : decode cX5_isPlace 11 = .ok (.ireturn, 1) := dk_get _ da_cX5_isPlace_0 7 _ _ _ rfl
def dt_cX5_isRange_0 : List (Nat × Instr × Nat) := [(0, .iload_n 1, 1), (1, .ifCond .lt 20, 3), (4, .iload_n 1, 1), (5, .iload_n 2, 1), (6, .if_icmp .ge 15, 3), (9, .iload_n 2, 1), (10, .aload_n 0, 1), (11, .getfield 84, 3), (14, .if_icmp .gt 7, 3), (17, .iconst 1, 1), (18, .goto 4, 3), (21, .iconst 0, 1), (22, .ireturn, 1)]
theorem da_cX5_isRange_0 : dk_all cX5_isRange dt_cX5_isRange_0 = true := by decide +kernel
theorem dX5_isRange_0 : decode cX5_isRange 0 = .ok (.iload_n 1, 1) := dk_get _ da_cX5_isRange_0 0 _ _ _ rfl
theorem dX5_isRange_1 : decode cX5_isRange 1 = .ok (.ifCond .lt 20, 3) := dk_get _ da_cX5_isRange_0 1 _ _ _ rfl
theorem dX5_isRange_4 : decode cX5_isRange 4 = .ok (.iload_n 1, 1) := dk_get _ da_cX5_isRange_0 2 _ _ _ rfl
theorem dX5_isRange_5 : decode cX5_isRange 5 = .ok (.iload_n 2, 1) := dk_get _ da_cX5_isRange_0 3 _ _ _ rfl
theorem dX5_isRange_6 : decode cX5_isRange 6 = .ok (.if_icmp .ge 15, 3) := dk_get _ da_cX5_isRange_0 4 _ _ _ rfl
theorem dX5_isRange_9 : decode cX5_isRange 9 = .ok (.iload_n 2, 1) := dk_get _ da_cX5_isRange_0 5 _ _ _ rfl
theorem dX5_isRange_10 : decode cX5_isRange 10 = .ok (.aload_n 0, 1) := dk_get _ da_cX5_isRange_0 6 _ _ _ rfl
theorem dX5_isRange_11 : decode cX5_isRange 11 = .ok (.getfield 84, 3) := dk_get _ da_cX5_isRange_0 7 _ _ _ rfl
theorem dX5_isRange_14 : decode cX5_isRange 14 = .ok (.if_icmp .gt 7, 3) := dk_get _ da_cX5_isRange_0 8 _ _ _ rfl
theorem dX5_isRange_17 : decode cX5_isRange 17 = .ok (.iconst 1, 1) := dk_get _ da_cX5_isRange_0 9 _ _ _ rfl
theorem dX5_isRange_18 : decode cX5_isRange 18 = .ok (.goto 4, 3) := dk_get _ da_cX5_isRange_0 10 _ _ _ rfl
theorem dX5_isRange_21 : decode cX5_isRange 21 = .ok (.iconst 0, 1) := dk_get _ da_cX5_isRange_0 11 _ _ _ rfl
theorem dX5_isRange_22 : decode cX5_isRange 22 = .ok (.ireturn, 1) := dk_get _ da_cX5_isRange_0 12 _ _ _ rfl
set_option maxRecDepth 20000 in
theorem ggX5_isShare_X5_within : GoodIn wsX5_isShare wsX5_within := goodIn_r _ [4] rfl (by decide +kernel)
set_option maxRecDepth 20000 in
theorem gX5_isShare_X5_within : GoodIn wsX5_isShare (va_wsS RX5 80 yX5_within wsX5_within) := goodIn_app (goodIn_r _ [1, 2, 3] rfl (by decide +kernel)) ggX5_isShare_X5_within
def dt_cX5_isShare_0 : List (Nat × Instr × Nat) := [(0, .iload_n 0, 1), (1, .iconst 1, 1), (2, .sipush 999, 3), (5, .invokestatic 80, 3), (8, .ifCond .eq 18, 3), (11, .iload_n 1, 1), (12, .iload_n 0, 1), (13, .sipush 999, 3), (16, .invokestatic 80, 3), (19, .ifCond .eq 7, 3), (22, .iconst 1, 1), (23, .goto 4, 3), (26, .iconst 0, 1), (27, .ireturn, 1)]
theorem da_cX5_isShare_0 : dk_all cX5_isShare dt_cX5_isShare_0 = true := by decide +kernel
theorem dX5_isShare_0 : decode cX5_isShare 0 = .ok (.iload_n 0, 1) := dk_get _ da_cX5_isShare_0 0 _ _ _ rfl
theorem dX5_isShare_1 : decode cX5_isShare 1 = .ok (.iconst 1, 1) := dk_get _ da_cX5_isShare_0 1 _ _ _ rfl
theorem dX5_isShare_2 : decode cX5_isShare 2 = .ok (.sipush 999, 3) := dk_get _ da_cX5_isShare_0 2 _ _ _ rfl
theorem dX5_isShare_5 : decode cX5_isShare 5 = .ok (.invokestatic 80, 3) := dk_get _ da_cX5_isShare_0 3 _ _ _ rfl
theorem dX5_isShare_8 : decode cX5_isShare 8 = .ok (.ifCond .eq 18, 3) := dk_get _ da_cX5_isShare_0 4 _ _ _ rfl
theorem dX5_isShare_11 : decode cX5_isShare 11 = .ok (.iload_n 1, 1) := dk_get _ da_cX5_isShare_0 5 _ _ _ rfl
theorem dX5_isShare_12 : decode cX5_isShare 12 = .ok (.iload_n 0, 1) := dk_get _ da_cX5_isShare_0 6 _ _ _ rfl
theorem dX5_isShare_13 : decode cX5_isShare 13 = .ok (.sipush 999, 3) := dk_get _ da_cX5_isShare_0 7 _ _ _ rfl
theorem dX5_isShare_16 : decode cX5_isShare 16 = .ok (.invokestatic 80, 3) := dk_get _ da_cX5_isShare_0 8 _ _ _ rfl
theorem dX5_isShare_19 : decode cX5_isShare 19 = .ok (.ifCond .eq 7, 3) := dk_get _ da_cX5_isShare_0 9 _ _ _ rfl
theorem dX5_isShare_22 : decode cX5_isShare 22 = .ok (.iconst 1, 1) := dk_get _ da_cX5_isShare_0 10 _ _ _ rfl
theorem dX5_isShare_23 : decode cX5_isShare 23 = .ok (.goto 4, 3) := dk_get _ da_cX5_isShare_0 11 _ _ _ rfl
theorem dX5_isShare_26 : decode cX5_isShare 26 = .ok (.iconst 0, 1) := dk_get _ da_cX5_isShare_0 12 _ _ _ rfl
theorem dX5_isShare_27 : decode cX5_isShare 27 = .ok (.ireturn, 1) := dk_get _ da_cX5_isShare_0 13 _ _ _ rfl
def dt_cX5_feed_0 : List (Nat × Instr × Nat) := [(0, .aload_n 0, 1), (1, .iconst 0, 1), (2, .putfield 77, 3), (5, .aload_n 0, 1), (6, .getfield 84, 3), (9, .iconst 4, 1), (10, .iadd, 1), (11, .sipush 160, 3), (14, .if_icmp .le 5, 3), (17, .iconst (-1), 1), (18, .ireturn, 1), (19, .aload_n 0, 1), (20, .getfield 7, 3), (23, .aload_n 0, 1), (24, .getfield 84, 3), (27, .iload_n 1, 1), (28, .bipush 16, 2), (30, .ishr, 1), (31, .i2s, 1), (32, .iastore, 1), (33, .aload_n 0, 1), (34, .getfield 7, 3), (37, .aload_n 0, 1), (38, .getfield 84, 3), (41, .iconst 1, 1), (42, .iadd, 1), (43, .iload_n 1, 1), (44, .i2s, 1), (45, .iastore, 1), (46, .aload_n 0, 1), (47, .getfield 7, 3), (50, .aload_n 0, 1), (51, .getfield 84, 3), (54, .iconst 2, 1), (55, .iadd, 1), (56, .iload_n 2, 1), (57, .bipush 16, 2), (59, .ishr, 1), (60, .i2s, 1), (61, .iastore, 1), (62, .aload_n 0, 1), (63, .getfield 7, 3), (66, .aload_n 0, 1), (67, .getfield 84, 3), (70, .iconst 3, 1), (71, .iadd, 1), (72, .iload_n 2, 1), (73, .i2s, 1), (74, .iastore, 1), (75, .aload_n 0, 1), (76, .dup, 1), (77, .getfield 84, 3), (80, .iconst 4, 1), (81, .iadd, 1), (82, .putfield 84, 3), (85, .aload_n 0, 1), (86, .getfield 84, 3), (89, .ireturn, 1)]
theorem da_cX5_feed_0 : dk_all cX5_feed dt_cX5_feed_0 = true := by decide +kernel
theorem dX5_feed_0 : decode cX5_feed 0 = .ok (.aload_n 0, 1) := dk_get _ da_cX5_feed_0 0 _ _ _ rfl
theorem dX5_feed_1 : decode cX5_feed 1 = .ok (.iconst 0, 1) := dk_get _ da_cX5_feed_0 1 _ _ _ rfl
theorem dX5_feed_2 : decode cX5_feed 2 = .ok (.putfield 77, 3) := dk_get _ da_cX5_feed_0 2 _ _ _ rfl
theorem dX5_feed_5 : decode cX5_feed 5 = .ok (.aload_n 0, 1) := dk_get _ da_cX5_feed_0 3 _ _ _ rfl
theorem dX5_feed_6 : decode cX5_feed 6 = .ok (.getfield 84, 3) := dk_get _ da_cX5_feed_0 4 _ _ _ rfl
theorem dX5_feed_9 : decode cX5_feed 9 = .ok (.iconst 4, 1) := dk_get _ da_cX5_feed_0 5 _ _ _ rfl
theorem dX5_feed_10 : decode cX5_feed 10 = .ok (.iadd, 1) := dk_get _ da_cX5_feed_0 6 _ _ _ rfl
theorem dX5_feed_11 : decode cX5_feed 11 = .ok (.sipush 160, 3) := dk_get _ da_cX5_feed_0 7 _ _ _ rfl
theorem dX5_feed_14 : decode cX5_feed 14 = .ok (.if_icmp .le 5, 3) := dk_get _ da_cX5_feed_0 8 _ _ _ rfl
theorem dX5_feed_17 : decode cX5_feed 17 = .ok (.iconst (-1), 1) := dk_get _ da_cX5_feed_0 9 _ _ _ rfl
theorem dX5_feed_18 : decode cX5_feed 18 = .ok (.ireturn, 1) := dk_get _ da_cX5_feed_0 10 _ _ _ rfl
theorem dX5_feed_19 : decode cX5_feed 19 = .ok (.aload_n 0, 1) := dk_get _ da_cX5_feed_0 11 _ _ _ rfl
theorem dX5_feed_20 : decode cX5_feed 20 = .ok (.getfield 7, 3) := dk_get _ da_cX5_feed_0 12 _ _ _ rfl
theorem dX5_feed_23 : decode cX5_feed 23 = .ok (.aload_n 0, 1) := dk_get _ da_cX5_feed_0 13 _ _ _ rfl
theorem dX5_feed_24 : decode cX5_feed 24 = .ok (.getfield 84, 3) := dk_get _ da_cX5_feed_0 14 _ _ _ rfl
theorem dX5_feed_27 : decode cX5_feed 27 = .ok (.iload_n 1, 1) := dk_get _ da_cX5_feed_0 15 _ _ _ rfl
theorem dX5_feed_28 : decode cX5_feed 28 = .ok (.bipush 16, 2) := dk_get _ da_cX5_feed_0 16 _ _ _ rfl
theorem dX5_feed_30 : decode cX5_feed 30 = .ok (.ishr, 1) := dk_get _ da_cX5_feed_0 17 _ _ _ rfl
theorem dX5_feed_31 : decode cX5_feed 31 = .ok (.i2s, 1) := dk_get _ da_cX5_feed_0 18 _ _ _ rfl
theorem dX5_feed_32 : decode cX5_feed 32 = .ok (.iastore, 1) := dk_get _ da_cX5_feed_0 19 _ _ _ rfl
theorem dX5_feed_33 : decode cX5_feed 33 = .ok (.aload_n 0, 1) := dk_get _ da_cX5_feed_0 20 _ _ _ rfl
theorem dX5_feed_34 : decode cX5_feed 34 = .ok (.getfield 7, 3) := dk_get _ da_cX5_feed_0 21 _ _ _ rfl
theorem dX5_feed_37 : decode cX5_feed 37 = .ok (.aload_n 0, 1) := dk_get _ da_cX5_feed_0 22 _ _ _ rfl
theorem dX5_feed_38 : decode cX5_feed 38 = .ok (.getfield 84, 3) := dk_get _ da_cX5_feed_0 23 _ _ _ rfl
theorem dX5_feed_41 : decode cX5_feed 41 = .ok (.iconst 1, 1) := dk_get _ da_cX5_feed_0 24 _ _ _ rfl
theorem dX5_feed_42 : decode cX5_feed 42 = .ok (.iadd, 1) := dk_get _ da_cX5_feed_0 25 _ _ _ rfl
theorem dX5_feed_43 : decode cX5_feed 43 = .ok (.iload_n 1, 1) := dk_get _ da_cX5_feed_0 26 _ _ _ rfl
theorem dX5_feed_44 : decode cX5_feed 44 = .ok (.i2s, 1) := dk_get _ da_cX5_feed_0 27 _ _ _ rfl
theorem dX5_feed_45 : decode cX5_feed 45 = .ok (.iastore, 1) := dk_get _ da_cX5_feed_0 28 _ _ _ rfl
theorem dX5_feed_46 : decode cX5_feed 46 = .ok (.aload_n 0, 1) := dk_get _ da_cX5_feed_0 29 _ _ _ rfl
theorem dX5_feed_47 : decode cX5_feed 47 = .ok (.getfield 7, 3) := dk_get _ da_cX5_feed_0 30 _ _ _ rfl
theorem dX5_feed_50 : decode cX5_feed 50 = .ok (.aload_n 0, 1) := dk_get _ da_cX5_feed_0 31 _ _ _ rfl
theorem dX5_feed_51 : decode cX5_feed 51 = .ok (.getfield 84, 3) := dk_get _ da_cX5_feed_0 32 _ _ _ rfl
theorem dX5_feed_54 : decode cX5_feed 54 = .ok (.iconst 2, 1) := dk_get _ da_cX5_feed_0 33 _ _ _ rfl
theorem dX5_feed_55 : decode cX5_feed 55 = .ok (.iadd, 1) := dk_get _ da_cX5_feed_0 34 _ _ _ rfl
theorem dX5_feed_56 : decode cX5_feed 56 = .ok (.iload_n 2, 1) := dk_get _ da_cX5_feed_0 35 _ _ _ rfl
theorem dX5_feed_57 : decode cX5_feed 57 = .ok (.bipush 16, 2) := dk_get _ da_cX5_feed_0 36 _ _ _ rfl
theorem dX5_feed_59 : decode cX5_feed 59 = .ok (.ishr, 1) := dk_get _ da_cX5_feed_0 37 _ _ _ rfl
theorem dX5_feed_60 : decode cX5_feed 60 = .ok (.i2s, 1) := dk_get _ da_cX5_feed_0 38 _ _ _ rfl
theorem dX5_feed_61 : decode cX5_feed 61 = .ok (.iastore, 1) := dk_get _ da_cX5_feed_0 39 _ _ _ rfl
theorem dX5_feed_62 : decode cX5_feed 62 = .ok (.aload_n 0, 1) := dk_get _ da_cX5_feed_0 40 _ _ _ rfl
theorem dX5_feed_63 : decode cX5_feed 63 = .ok (.getfield 7, 3) := dk_get _ da_cX5_feed_0 41 _ _ _ rfl
theorem dX5_feed_66 : decode cX5_feed 66 = .ok (.aload_n 0, 1) := dk_get _ da_cX5_feed_0 42 _ _ _ rfl
theorem dX5_feed_67 : decode cX5_feed 67 = .ok (.getfield 84, 3) := dk_get _ da_cX5_feed_0 43 _ _ _ rfl
theorem dX5_feed_70 : decode cX5_feed 70 = .ok (.iconst 3, 1) := dk_get _ da_cX5_feed_0 44 _ _ _ rfl
theorem dX5_feed_71 : decode cX5_feed 71 = .ok (.iadd, 1) := dk_get _ da_cX5_feed_0 45 _ _ _ rfl
theorem dX5_feed_72 : decode cX5_feed 72 = .ok (.iload_n 2, 1) := dk_get _ da_cX5_feed_0 46 _ _ _ rfl
theorem dX5_feed_73 : decode cX5_feed 73 = .ok (.i2s, 1) := dk_get _ da_cX5_feed_0 47 _ _ _ rfl
theorem dX5_feed_74 : decode cX5_feed 74 = .ok (.iastore, 1) := dk_get _ da_cX5_feed_0 48 _ _ _ rfl
theorem dX5_feed_75 : decode cX5_feed 75 = .ok (.aload_n 0, 1) := dk_get _ da_cX5_feed_0 49 _ _ _ rfl
theorem dX5_feed_76 : decode cX5_feed 76 = .ok (.dup, 1) := dk_get _ da_cX5_feed_0 50 _ _ _ rfl
theorem dX5_feed_77 : decode cX5_feed 77 = .ok (.getfield 84, 3) := dk_get _ da_cX5_feed_0 51 _ _ _ rfl
theorem dX5_feed_80 : decode cX5_feed 80 = .ok (.iconst 4, 1) := dk_get _ da_cX5_feed_0 52 _ _ _ rfl
theorem dX5_feed_81 : decode cX5_feed 81 = .ok (.iadd, 1) := dk_get _ da_cX5_feed_0 53 _ _ _ rfl
theorem dX5_feed_82 : decode cX5_feed 82 = .ok (.putfield 84, 3) := dk_get _ da_cX5_feed_0 54 _ _ _ rfl
theorem dX5_feed_85 : decode cX5_feed 85 = .ok (.aload_n 0, 1) := dk_get _ da_cX5_feed_0 55 _ _ _ rfl
theorem dX5_feed_86 : decode cX5_feed 86 = .ok (.getfield 84, 3) := dk_get _ da_cX5_feed_0 56 _ _ _ rfl
theorem dX5_feed_89 : decode cX5_feed 89 = .ok (.ireturn, 1) := dk_get _ da_cX5_feed_0 57 _ _ _ rfl
set_option maxRecDepth 20000 in
theorem ggX5_end_X5_within : GoodIn wsX5_end wsX5_within := goodIn_r _ [6] rfl (by decide +kernel)
set_option maxRecDepth 20000 in
theorem gX5_end_X5_within : GoodIn wsX5_end (va_wsS RX5 80 yX5_within wsX5_within) := goodIn_app (goodIn_r _ [3, 4, 5] rfl (by decide +kernel)) ggX5_end_X5_within
def dt_cX5_end_0 : List (Nat × Instr × Nat) := [(0, .aload_n 0, 1), (1, .iconst 0, 1), (2, .putfield 77, 3), (5, .iload_n 1, 1), (6, .iconst 0, 1), (7, .aload_n 0, 1), (8, .getfield 84, 3), (11, .invokestatic 80, 3), (14, .ifCond .ne 5, 3), (17, .iconst (-1), 1), (18, .ireturn, 1), (19, .aload_n 0, 1), (20, .iload_n 1, 1), (21, .putfield 84, 3), (24, .aload_n 0, 1), (25, .getfield 84, 3), (28, .ireturn, 1)]
theorem da_cX5_end_0 : dk_all cX5_end dt_cX5_end_0 = true := by decide +kernel
theorem dX5_end_0 : decode cX5_end 0 = .ok (.aload_n 0, 1) := dk_get _ da_cX5_end_0 0 _ _ _ rfl
theorem dX5_end_1 : decode cX5_end 1 = .ok (.iconst 0, 1) := dk_get _ da_cX5_end_0 1 _ _ _ rfl
theorem dX5_end_2 : decode cX5_end 2 = .ok (.putfield 77, 3) := dk_get _ da_cX5_end_0 2 _ _ _ rfl
theorem dX5_end_5 : decode cX5_end 5 = .ok (.iload_n 1, 1) := dk_get _ da_cX5_end_0 3 _ _ _ rfl
theorem dX5_end_6 : decode cX5_end 6 = .ok (.iconst 0, 1) := dk_get _ da_cX5_end_0 4 _ _ _ rfl
theorem dX5_end_7 : decode cX5_end 7 = .ok (.aload_n 0, 1) := dk_get _ da_cX5_end_0 5 _ _ _ rfl
theorem dX5_end_8 : decode cX5_end 8 = .ok (.getfield 84, 3) := dk_get _ da_cX5_end_0 6 _ _ _ rfl
theorem dX5_end_11 : decode cX5_end 11 = .ok (.invokestatic 80, 3) := dk_get _ da_cX5_end_0 7 _ _ _ rfl
theorem dX5_end_14 : decode cX5_end 14 = .ok (.ifCond .ne 5, 3) := dk_get _ da_cX5_end_0 8 _ _ _ rfl
theorem dX5_end_17 : decode cX5_end 17 = .ok (.iconst (-1), 1) := dk_get _ da_cX5_end_0 9 _ _ _ rfl
theorem dX5_end_18 : decode cX5_end 18 = .ok (.ireturn, 1) := dk_get _ da_cX5_end_0 10 _ _ _ rfl
theorem dX5_end_19 : decode cX5_end 19 = .ok (.aload_n 0, 1) := dk_get _ da_cX5_end_0 11 _ _ _ rfl
theorem dX5_end_20 : decode cX5_end 20 = .ok (.iload_n 1, 1) := dk_get _ da_cX5_end_0 12 _ _ _ rfl
theorem dX5_end_21 : decode cX5_end 21 = .ok (.putfield 84, 3) := dk_get _ da_cX5_end_0 13 _ _ _ rfl
theorem dX5_end_24 : decode cX5_end 24 = .ok (.aload_n 0, 1) := dk_get _ da_cX5_end_0 14 _ _ _ rfl
theorem dX5_end_25 : decode cX5_end 25 = .ok (.getfield 84, 3) := dk_get _ da_cX5_end_0 15 _ _ _ rfl
theorem dX5_end_28 : decode cX5_end 28 = .ok (.ireturn, 1) := dk_get _ da_cX5_end_0 16 _ _ _ rfl
set_option maxRecDepth 20000 in
theorem ggX5_slots_X5_within : GoodIn wsX5_slots wsX5_within := goodIn_r _ [6] rfl (by decide +kernel)
set_option maxRecDepth 20000 in
theorem gX5_slots_X5_within : GoodIn wsX5_slots (va_wsS RX5 80 yX5_within wsX5_within) := goodIn_app (goodIn_r _ [3, 4, 5] rfl (by decide +kernel)) ggX5_slots_X5_within
def dt_cX5_slots_0 : List (Nat × Instr × Nat) := [(0, .aload_n 0, 1), (1, .iconst 0, 1), (2, .putfield 77, 3), (5, .iload_n 1, 1), (6, .iconst 1, 1), (7, .bipush 6, 2), (9, .invokestatic 80, 3), (12, .ifCond .ne 5, 3), (15, .iconst (-1), 1), (16, .ireturn, 1), (17, .aload_n 0, 1), (18, .getfield 13, 3), (21, .istore_n 2, 1), (22, .aload_n 0, 1), (23, .iload_n 1, 1), (24, .putfield 13, 3), (27, .iload_n 2, 1), (28, .ireturn, 1)]
theorem da_cX5_slots_0 : dk_all cX5_slots dt_cX5_slots_0 = true := by decide +kernel
theorem dX5_slots_0 : decode cX5_slots 0 = .ok (.aload_n 0, 1) := dk_get _ da_cX5_slots_0 0 _ _ _ rfl
theorem dX5_slots_1 : decode cX5_slots 1 = .ok (.iconst 0, 1) := dk_get _ da_cX5_slots_0 1 _ _ _ rfl
theorem dX5_slots_2 : decode cX5_slots 2 = .ok (.putfield 77, 3) := dk_get _ da_cX5_slots_0 2 _ _ _ rfl
theorem dX5_slots_5 : decode cX5_slots 5 = .ok (.iload_n 1, 1) := dk_get _ da_cX5_slots_0 3 _ _ _ rfl
theorem dX5_slots_6 : decode cX5_slots 6 = .ok (.iconst 1, 1) := dk_get _ da_cX5_slots_0 4 _ _ _ rfl
theorem dX5_slots_7 : decode cX5_slots 7 = .ok (.bipush 6, 2) := dk_get _ da_cX5_slots_0 5 _ _ _ rfl
theorem dX5_slots_9 : decode cX5_slots 9 = .ok (.invokestatic 80, 3) := dk_get _ da_cX5_slots_0 6 _ _ _ rfl
theorem dX5_slots_12 : decode cX5_slots 12 = .ok (.ifCond .ne 5, 3) := dk_get _ da_cX5_slots_0 7 _ _ _ rfl
theorem dX5_slots_15 : decode cX5_slots 15 = .ok (.iconst (-1), 1) := dk_get _ da_cX5_slots_0 8 _ _ _ rfl
theorem dX5_slots_16 : decode cX5_slots 16 = .ok (.ireturn, 1) := dk_get _ da_cX5_slots_0 9 _ _ _ rfl
theorem dX5_slots_17 : decode cX5_slots 17 = .ok (.aload_n 0, 1) := dk_get _ da_cX5_slots_0 10 _ _ _ rfl
theorem dX5_slots_18 : decode cX5_slots 18 = .ok (.getfield 13, 3) := dk_get _ da_cX5_slots_0 11 _ _ _ rfl
theorem dX5_slots_21 : decode cX5_slots 21 = .ok (.istore_n 2, 1) := dk_get _ da_cX5_slots_0 12 _ _ _ rfl
theorem dX5_slots_22 : decode cX5_slots 22 = .ok (.aload_n 0, 1) := dk_get _ da_cX5_slots_0 13 _ _ _ rfl
theorem dX5_slots_23 : decode cX5_slots 23 = .ok (.iload_n 1, 1) := dk_get _ da_cX5_slots_0 14 _ _ _ rfl
theorem dX5_slots_24 : decode cX5_slots 24 = .ok (.putfield 13, 3) := dk_get _ da_cX5_slots_0 15 _ _ _ rfl
theorem dX5_slots_27 : decode cX5_slots 27 = .ok (.iload_n 2, 1) := dk_get _ da_cX5_slots_0 16 _ _ _ rfl
theorem dX5_slots_28 : decode cX5_slots 28 = .ok (.ireturn, 1) := dk_get _ da_cX5_slots_0 17 _ _ _ rfl
set_option maxRecDepth 20000 in
theorem ggX5_insert_X5_within : GoodIn wsX5_insert wsX5_within := goodIn_r _ [7] rfl (by decide +kernel)
set_option maxRecDepth 20000 in
theorem gX5_insert_X5_within : GoodIn wsX5_insert (va_wsS RX5 80 yX5_within wsX5_within) := goodIn_app (goodIn_r _ [4, 5, 6] rfl (by decide +kernel)) ggX5_insert_X5_within
set_option maxRecDepth 20000 in
theorem ggX5_insert_X5_isValue : GoodIn wsX5_insert wsX5_isValue := goodIn_r _ [10, 4, 5, 6, 7] rfl (by decide +kernel)
set_option maxRecDepth 20000 in
theorem gX5_insert_X5_isValue : GoodIn wsX5_insert (va_wsS RX5 132 yX5_isValue wsX5_isValue) := goodIn_app (goodIn_r _ [8, 9, 6] rfl (by decide +kernel)) ggX5_insert_X5_isValue
def dt_cX5_insert_0 : List (Nat × Instr × Nat) := [(0, .aload_n 0, 1), (1, .iconst 0, 1), (2, .putfield 77, 3), (5, .iload_n 1, 1), (6, .iconst 0, 1), (7, .aload_n 0, 1), (8, .getfield 84, 3), (11, .invokestatic 80, 3), (14, .ifCond .eq 20, 3), (17, .iload_n 2, 1), (18, .invokestatic 132, 3), (21, .ifCond .eq 13, 3), (24, .aload_n 0, 1), (25, .getfield 84, 3), (28, .sipush 160, 3), (31, .if_icmp .ne 5, 3), (34, .iconst (-1), 1), (35, .ireturn, 1), (36, .aload_n 0, 1), (37, .getfield 84, 3), (40, .istore_n 3, 1), (41, .iload_n 3, 1), (42, .iload_n 1, 1), (43, .if_icmp .le 23, 3), (46, .aload_n 0, 1), (47, .getfield 7, 3), (50, .iload_n 3, 1), (51, .aload_n 0, 1), (52, .getfield 7, 3), (55, .iload_n 3, 1), (56, .iconst 1, 1), (57, .isub, 1), (58, .iaload, 1), (59, .iastore, 1), (60, .iinc 3 (-1), 3), (63, .goto (-22), 3), (66, .aload_n 0, 1), (67, .getfield 7, 3), (70, .iload_n 1, 1), (71, .iload_n 2, 1), (72, .iastore, 1), (73, .aload_n 0, 1), (74, .dup, 1), (75, .getfield 84, 3), (78, .iconst 1, 1), (79, .iadd, 1), (80, .putfield 84, 3), (83, .aload_n 0, 1), (84, .getfield 84, 3), (87, .ireturn, 1)]
theorem da_cX5_insert_0 : dk_all cX5_insert dt_cX5_insert_0 = true := by decide +kernel
theorem dX5_insert_0 : decode cX5_insert 0 = .ok (.aload_n 0, 1) := dk_get _ da_cX5_insert_0 0 _ _ _ rfl
theorem dX5_insert_1 : decode cX5_insert 1 = .ok (.iconst 0, 1) := dk_get _ da_cX5_insert_0 1 _ _ _ rfl
theorem dX5_insert_2 : decode cX5_insert 2 = .ok (.putfield 77, 3) := dk_get _ da_cX5_insert_0 2 _ _ _ rfl
theorem dX5_insert_5 : decode cX5_insert 5 = .ok (.iload_n 1, 1) := dk_get _ da_cX5_insert_0 3 _ _ _ rfl
theorem dX5_insert_6 : decode cX5_insert 6 = .ok (.iconst 0, 1) := dk_get _ da_cX5_insert_0 4 _ _ _ rfl
theorem dX5_insert_7 : decode cX5_insert 7 = .ok (.aload_n 0, 1) := dk_get _ da_cX5_insert_0 5 _ _ _ rfl
theorem dX5_insert_8 : decode cX5_insert 8 = .ok (.getfield 84, 3) := dk_get _ da_cX5_insert_0 6 _ _ _ rfl
theorem dX5_insert_11 : decode cX5_insert 11 = .ok (.invokestatic 80, 3) := dk_get _ da_cX5_insert_0 7 _ _ _ rfl
theorem dX5_insert_14 : decode cX5_insert 14 = .ok (.ifCond .eq 20, 3) := dk_get _ da_cX5_insert_0 8 _ _ _ rfl
theorem dX5_insert_17 : decode cX5_insert 17 = .ok (.iload_n 2, 1) := dk_get _ da_cX5_insert_0 9 _ _ _ rfl
theorem dX5_insert_18 : decode cX5_insert 18 = .ok (.invokestatic 132, 3) := dk_get _ da_cX5_insert_0 10 _ _ _ rfl
theorem dX5_insert_21 : decode cX5_insert 21 = .ok (.ifCond .eq 13, 3) := dk_get _ da_cX5_insert_0 11 _ _ _ rfl
theorem dX5_insert_24 : decode cX5_insert 24 = .ok (.aload_n 0, 1) := dk_get _ da_cX5_insert_0 12 _ _ _ rfl
theorem dX5_insert_25 : decode cX5_insert 25 = .ok (.getfield 84, 3) := dk_get _ da_cX5_insert_0 13 _ _ _ rfl
theorem dX5_insert_28 : decode cX5_insert 28 = .ok (.sipush 160, 3) := dk_get _ da_cX5_insert_0 14 _ _ _ rfl
theorem dX5_insert_31 : decode cX5_insert 31 = .ok (.if_icmp .ne 5, 3) := dk_get _ da_cX5_insert_0 15 _ _ _ rfl
theorem dX5_insert_34 : decode cX5_insert 34 = .ok (.iconst (-1), 1) := dk_get _ da_cX5_insert_0 16 _ _ _ rfl
theorem dX5_insert_35 : decode cX5_insert 35 = .ok (.ireturn, 1) := dk_get _ da_cX5_insert_0 17 _ _ _ rfl
theorem dX5_insert_36 : decode cX5_insert 36 = .ok (.aload_n 0, 1) := dk_get _ da_cX5_insert_0 18 _ _ _ rfl
theorem dX5_insert_37 : decode cX5_insert 37 = .ok (.getfield 84, 3) := dk_get _ da_cX5_insert_0 19 _ _ _ rfl
theorem dX5_insert_40 : decode cX5_insert 40 = .ok (.istore_n 3, 1) := dk_get _ da_cX5_insert_0 20 _ _ _ rfl
theorem dX5_insert_41 : decode cX5_insert 41 = .ok (.iload_n 3, 1) := dk_get _ da_cX5_insert_0 21 _ _ _ rfl
theorem dX5_insert_42 : decode cX5_insert 42 = .ok (.iload_n 1, 1) := dk_get _ da_cX5_insert_0 22 _ _ _ rfl
theorem dX5_insert_43 : decode cX5_insert 43 = .ok (.if_icmp .le 23, 3) := dk_get _ da_cX5_insert_0 23 _ _ _ rfl
theorem dX5_insert_46 : decode cX5_insert 46 = .ok (.aload_n 0, 1) := dk_get _ da_cX5_insert_0 24 _ _ _ rfl
theorem dX5_insert_47 : decode cX5_insert 47 = .ok (.getfield 7, 3) := dk_get _ da_cX5_insert_0 25 _ _ _ rfl
theorem dX5_insert_50 : decode cX5_insert 50 = .ok (.iload_n 3, 1) := dk_get _ da_cX5_insert_0 26 _ _ _ rfl
theorem dX5_insert_51 : decode cX5_insert 51 = .ok (.aload_n 0, 1) := dk_get _ da_cX5_insert_0 27 _ _ _ rfl
theorem dX5_insert_52 : decode cX5_insert 52 = .ok (.getfield 7, 3) := dk_get _ da_cX5_insert_0 28 _ _ _ rfl
theorem dX5_insert_55 : decode cX5_insert 55 = .ok (.iload_n 3, 1) := dk_get _ da_cX5_insert_0 29 _ _ _ rfl
theorem dX5_insert_56 : decode cX5_insert 56 = .ok (.iconst 1, 1) := dk_get _ da_cX5_insert_0 30 _ _ _ rfl
theorem dX5_insert_57 : decode cX5_insert 57 = .ok (.isub, 1) := dk_get _ da_cX5_insert_0 31 _ _ _ rfl
theorem dX5_insert_58 : decode cX5_insert 58 = .ok (.iaload, 1) := dk_get _ da_cX5_insert_0 32 _ _ _ rfl
theorem dX5_insert_59 : decode cX5_insert 59 = .ok (.iastore, 1) := dk_get _ da_cX5_insert_0 33 _ _ _ rfl
theorem dX5_insert_60 : decode cX5_insert 60 = .ok (.iinc 3 (-1), 3) := dk_get _ da_cX5_insert_0 34 _ _ _ rfl
theorem dX5_insert_63 : decode cX5_insert 63 = .ok (.goto (-22), 3) := dk_get _ da_cX5_insert_0 35 _ _ _ rfl
theorem dX5_insert_66 : decode cX5_insert 66 = .ok (.aload_n 0, 1) := dk_get _ da_cX5_insert_0 36 _ _ _ rfl
theorem dX5_insert_67 : decode cX5_insert 67 = .ok (.getfield 7, 3) := dk_get _ da_cX5_insert_0 37 _ _ _ rfl
theorem dX5_insert_70 : decode cX5_insert 70 = .ok (.iload_n 1, 1) := dk_get _ da_cX5_insert_0 38 _ _ _ rfl
theorem dX5_insert_71 : decode cX5_insert 71 = .ok (.iload_n 2, 1) := dk_get _ da_cX5_insert_0 39 _ _ _ rfl
theorem dX5_insert_72 : decode cX5_insert 72 = .ok (.iastore, 1) := dk_get _ da_cX5_insert_0 40 _ _ _ rfl
theorem dX5_insert_73 : decode cX5_insert 73 = .ok (.aload_n 0, 1) := dk_get _ da_cX5_insert_0 41 _ _ _ rfl
theorem dX5_insert_74 : decode cX5_insert 74 = .ok (.dup, 1) := dk_get _ da_cX5_insert_0 42 _ _ _ rfl
theorem dX5_insert_75 : decode cX5_insert 75 = .ok (.getfield 84, 3) := dk_get _ da_cX5_insert_0 43 _ _ _ rfl
theorem dX5_insert_78 : decode cX5_insert 78 = .ok (.iconst 1, 1) := dk_get _ da_cX5_insert_0 44 _ _ _ rfl
theorem dX5_insert_79 : decode cX5_insert 79 = .ok (.iadd, 1) := dk_get _ da_cX5_insert_0 45 _ _ _ rfl
theorem dX5_insert_80 : decode cX5_insert 80 = .ok (.putfield 84, 3) := dk_get _ da_cX5_insert_0 46 _ _ _ rfl
theorem dX5_insert_83 : decode cX5_insert 83 = .ok (.aload_n 0, 1) := dk_get _ da_cX5_insert_0 47 _ _ _ rfl
theorem dX5_insert_84 : decode cX5_insert 84 = .ok (.getfield 84, 3) := dk_get _ da_cX5_insert_0 48 _ _ _ rfl
theorem dX5_insert_87 : decode cX5_insert 87 = .ok (.ireturn, 1) := dk_get _ da_cX5_insert_0 49 _ _ _ rfl
set_option maxRecDepth 20000 in
theorem ggX5_remove_X5_isPlace : GoodIn wsX5_remove wsX5_isPlace := goodIn_r _ [9, 4, 10, 11, 8, 12, 13, 14, 15, 16, 17, 18, 19, 20, 21, 22, 23, 24, 25, 26, 27, 28, 29, 30, 31, 32, 33, 34, 35, 36, 37, 38, 39, 40, 41, 42] rfl (by decide +kernel)
set_option maxRecDepth 20000 in
theorem gX5_remove_X5_isPlace : GoodIn wsX5_remove (wsV RX5 128 RX5 yX5_isPlace wsX5_isPlace) := goodIn_app (goodIn_r _ [5, 6, 7, 8] rfl (by decide +kernel)) ggX5_remove_X5_isPlace
def dt_cX5_remove_0 : List (Nat × Instr × Nat) := [(0, .aload_n 0, 1), (1, .iconst 0, 1), (2, .putfield 77, 3), (5, .aload_n 0, 1), (6, .iload_n 1, 1), (7, .invokevirtual 128, 3), (10, .ifCond .ne 6, 3), (13, .ldc 148, 2), (15, .ireturn, 1), (16, .aload_n 0, 1), (17, .getfield 7, 3), (20, .iload_n 1, 1), (21, .iaload, 1), (22, .istore_n 2, 1), (23, .aload_n 0, 1), (24, .dup, 1), (25, .getfield 84, 3), (28, .iconst 1, 1), (29, .isub, 1), (30, .putfield 84, 3), (33, .iload_n 1, 1), (34, .istore_n 3, 1), (35, .iload_n 3, 1), (36, .aload_n 0, 1), (37, .getfield 84, 3), (40, .if_icmp .ge 23, 3), (43, .aload_n 0, 1), (44, .getfield 7, 3), (47, .iload_n 3, 1), (48, .aload_n 0, 1), (49, .getfield 7, 3), (52, .iload_n 3, 1), (53, .iconst 1, 1), (54, .iadd, 1), (55, .iaload, 1), (56, .iastore, 1), (57, .iinc 3 1, 3), (60, .goto (-25), 3), (63, .iload_n 2, 1), (64, .ireturn, 1)]
theorem da_cX5_remove_0 : dk_all cX5_remove dt_cX5_remove_0 = true := by decide +kernel
theorem dX5_remove_0 : decode cX5_remove 0 = .ok (.aload_n 0, 1) := dk_get _ da_cX5_remove_0 0 _ _ _ rfl
theorem dX5_remove_1 : decode cX5_remove 1 = .ok (.iconst 0, 1) := dk_get _ da_cX5_remove_0 1 _ _ _ rfl
theorem dX5_remove_2 : decode cX5_remove 2 = .ok (.putfield 77, 3) := dk_get _ da_cX5_remove_0 2 _ _ _ rfl
theorem dX5_remove_5 : decode cX5_remove 5 = .ok (.aload_n 0, 1) := dk_get _ da_cX5_remove_0 3 _ _ _ rfl
theorem dX5_remove_6 : decode cX5_remove 6 = .ok (.iload_n 1, 1) := dk_get _ da_cX5_remove_0 4 _ _ _ rfl
theorem dX5_remove_7 : decode cX5_remove 7 = .ok (.invokevirtual 128, 3) := dk_get _ da_cX5_remove_0 5 _ _ _ rfl
theorem dX5_remove_10 : decode cX5_remove 10 = .ok (.ifCond .ne 6, 3) := dk_get _ da_cX5_remove_0 6 _ _ _ rfl
theorem dX5_remove_13 : decode cX5_remove 13 = .ok (.ldc 148, 2) := dk_get _ da_cX5_remove_0 7 _ _ _ rfl
theorem dX5_remove_15 : decode cX5_remove 15 = .ok (.ireturn, 1) := dk_get _ da_cX5_remove_0 8 _ _ _ rfl
theorem dX5_remove_16 : decode cX5_remove 16 = .ok (.aload_n 0, 1) := dk_get _ da_cX5_remove_0 9 _ _ _ rfl
theorem dX5_remove_17 : decode cX5_remove 17 = .ok (.getfield 7, 3) := dk_get _ da_cX5_remove_0 10 _ _ _ rfl
theorem dX5_remove_20 : decode cX5_remove 20 = .ok (.iload_n 1, 1) := dk_get _ da_cX5_remove_0 11 _ _ _ rfl
theorem dX5_remove_21 : decode cX5_remove 21 = .ok (.iaload, 1) := dk_get _ da_cX5_remove_0 12 _ _ _ rfl
theorem dX5_remove_22 : decode cX5_remove 22 = .ok (.istore_n 2, 1) := dk_get _ da_cX5_remove_0 13 _ _ _ rfl
theorem dX5_remove_23 : decode cX5_remove 23 = .ok (.aload_n 0, 1) := dk_get _ da_cX5_remove_0 14 _ _ _ rfl
theorem dX5_remove_24 : decode cX5_remove 24 = .ok (.dup, 1) := dk_get _ da_cX5_remove_0 15 _ _ _ rfl
theorem dX5_remove_25 : decode cX5_remove 25 = .ok (.getfield 84, 3) := dk_get _ da_cX5_remove_0 16 _ _ _ rfl
theorem dX5_remove_28 : decode cX5_remove 28 = .ok (.iconst 1, 1) := dk_get _ da_cX5_remove_0 17 _ _ _ rfl
theorem dX5_remove_29 : decode cX5_remove 29 = .ok (.isub, 1) := dk_get _ da_cX5_remove_0 18 _ _ _ rfl
theorem dX5_remove_30 : decode cX5_remove 30 = .ok (.putfield 84, 3) := dk_get _ da_cX5_remove_0 19 _ _ _ rfl
theorem dX5_remove_33 : decode cX5_remove 33 = .ok (.iload_n 1, 1) := dk_get _ da_cX5_remove_0 20 _ _ _ rfl
theorem dX5_remove_34 : decode cX5_remove 34 = .ok (.istore_n 3, 1) := dk_get _ da_cX5_remove_0 21 _ _ _ rfl
theorem dX5_remove_35 : decode cX5_remove 35 = .ok (.iload_n 3, 1) := dk_get _ da_cX5_remove_0 22 _ _ _ rfl
theorem dX5_remove_36 : decode cX5_remove 36 = .ok (.aload_n 0, 1) := dk_get _ da_cX5_remove_0 23 _ _ _ rfl
theorem dX5_remove_37 : decode cX5_remove 37 = .ok (.getfield 84, 3) := dk_get _ da_cX5_remove_0 24 _ _ _ rfl
theorem dX5_remove_40 : decode cX5_remove 40 = .ok (.if_icmp .ge 23, 3) := dk_get _ da_cX5_remove_0 25 _ _ _ rfl
theorem dX5_remove_43 : decode cX5_remove 43 = .ok (.aload_n 0, 1) := dk_get _ da_cX5_remove_0 26 _ _ _ rfl
theorem dX5_remove_44 : decode cX5_remove 44 = .ok (.getfield 7, 3) := dk_get _ da_cX5_remove_0 27 _ _ _ rfl
theorem dX5_remove_47 : decode cX5_remove 47 = .ok (.iload_n 3, 1) := dk_get _ da_cX5_remove_0 28 _ _ _ rfl
theorem dX5_remove_48 : decode cX5_remove 48 = .ok (.aload_n 0, 1) := dk_get _ da_cX5_remove_0 29 _ _ _ rfl
theorem dX5_remove_49 : decode cX5_remove 49 = .ok (.getfield 7, 3) := dk_get _ da_cX5_remove_0 30 _ _ _ rfl
theorem dX5_remove_52 : decode cX5_remove 52 = .ok (.iload_n 3, 1) := dk_get _ da_cX5_remove_0 31 _ _ _ rfl
theorem dX5_remove_53 : decode cX5_remove 53 = .ok (.iconst 1, 1) := dk_get _ da_cX5_remove_0 32 _ _ _ rfl
theorem dX5_remove_54 : decode cX5_remove 54 = .ok (.iadd, 1) := dk_get _ da_cX5_remove_0 33 _ _ _ rfl
theorem dX5_remove_55 : decode cX5_remove 55 = .ok (.iaload, 1) := dk_get _ da_cX5_remove_0 34 _ _ _ rfl
theorem dX5_remove_56 : decode cX5_remove 56 = .ok (.iastore, 1) := dk_get _ da_cX5_remove_0 35 _ _ _ rfl
theorem dX5_remove_57 : decode cX5_remove 57 = .ok (.iinc 3 1, 3) := dk_get _ da_cX5_remove_0 36 _ _ _ rfl
theorem dX5_remove_60 : decode cX5_remove 60 = .ok (.goto (-25), 3) := dk_get _ da_cX5_remove_0 37 _ _ _ rfl
theorem dX5_remove_63 : decode cX5_remove 63 = .ok (.iload_n 2, 1) := dk_get _ da_cX5_remove_0 38 _ _ _ rfl
theorem dX5_remove_64 : decode cX5_remove 64 = .ok (.ireturn, 1) := dk_get _ da_cX5_remove_0 39 _ _ _ rfl
set_option maxRecDepth 20000 in
theorem ggX5_at_X5_isPlace : GoodIn wsX5_at wsX5_isPlace := goodIn_r _ [7, 8, 9, 10, 6, 11, 12, 13, 14, 15, 16, 17, 18, 19, 20, 21, 22, 23, 24, 25, 26, 27, 28, 29, 30, 31, 32, 33, 34, 35, 36, 37, 38, 39, 40, 41] rfl (by decide +kernel)
set_option maxRecDepth 20000 in
theorem gX5_at_X5_isPlace : GoodIn wsX5_at (wsV RX5 128 RX5 yX5_isPlace wsX5_isPlace) := goodIn_app (goodIn_r _ [3, 4, 5, 6] rfl (by decide +kernel)) ggX5_at_X5_isPlace
def dt_cX5_at_0 : List (Nat × Instr × Nat) := [(0, .aload_n 0, 1), (1, .aload_n 0, 1), (2, .iload_n 1, 1), (3, .invokevirtual 128, 3), (6, .ifCond .eq 7, 3), (9, .iconst 0, 1), (10, .goto 4, 3), (13, .iconst 1, 1), (14, .putfield 77, 3), (17, .aload_n 0, 1), (18, .getfield 77, 3), (21, .ifCond .ne 12, 3), (24, .aload_n 0, 1), (25, .getfield 7, 3), (28, .iload_n 1, 1), (29, .iaload, 1), (30, .goto 4, 3), (33, .iconst 0, 1), (34, .ireturn, 1)]
theorem da_cX5_at_0 : dk_all cX5_at dt_cX5_at_0 = true := by decide +kernel
theorem dX5_at_0 : decode cX5_at 0 = .ok (.aload_n 0, 1) := dk_get _ da_cX5_at_0 0 _ _ _ rfl
theorem dX5_at_1 : decode cX5_at 1 = .ok (.aload_n 0, 1) := dk_get _ da_cX5_at_0 1 _ _ _ rfl
theorem dX5_at_2 : decode cX5_at 2 = .ok (.iload_n 1, 1) := dk_get _ da_cX5_at_0 2 _ _ _ rfl
theorem dX5_at_3 : decode cX5_at 3 = .ok (.invokevirtual 128, 3) := dk_get _ da_cX5_at_0 3 _ _ _ rfl
theorem dX5_at_6 : decode cX5_at 6 = .ok (.ifCond .eq 7, 3) := dk_get _ da_cX5_at_0 4 _ _ _ rfl
theorem dX5_at_9 : decode cX5_at 9 = .ok (.iconst 0, 1) := dk_get _ da_cX5_at_0 5 _ _ _ rfl
theorem dX5_at_10 : decode cX5_at 10 = .ok (.goto 4, 3) := dk_get _ da_cX5_at_0 6 _ _ _ rfl
theorem dX5_at_13 : decode cX5_at 13 = .ok (.iconst 1, 1) := dk_get _ da_cX5_at_0 7 _ _ _ rfl
theorem dX5_at_14 : decode cX5_at 14 = .ok (.putfield 77, 3) := dk_get _ da_cX5_at_0 8 _ _ _ rfl
theorem dX5_at_17 : decode cX5_at 17 = .ok (.aload_n 0, 1) := dk_get _ da_cX5_at_0 9 _ _ _ rfl
theorem dX5_at_18 : decode cX5_at 18 = .ok (.getfield 77, 3) := dk_get _ da_cX5_at_0 10 _ _ _ rfl
theorem dX5_at_21 : decode cX5_at 21 = .ok (.ifCond .ne 12, 3) := dk_get _ da_cX5_at_0 11 _ _ _ rfl
theorem dX5_at_24 : decode cX5_at 24 = .ok (.aload_n 0, 1) := dk_get _ da_cX5_at_0 12 _ _ _ rfl
theorem dX5_at_25 : decode cX5_at 25 = .ok (.getfield 7, 3) := dk_get _ da_cX5_at_0 13 _ _ _ rfl
theorem dX5_at_28 : decode cX5_at 28 = .ok (.iload_n 1, 1) := dk_get _ da_cX5_at_0 14 _ _ _ rfl
theorem dX5_at_29 : decode cX5_at 29 = .ok (.iaload, 1) := dk_get _ da_cX5_at_0 15 _ _ _ rfl
theorem dX5_at_30 : decode cX5_at 30 = .ok (.goto 4, 3) := dk_get _ da_cX5_at_0 16 _ _ _ rfl
theorem dX5_at_33 : decode cX5_at 33 = .ok (.iconst 0, 1) := dk_get _ da_cX5_at_0 17 _ _ _ rfl
theorem dX5_at_34 : decode cX5_at 34 = .ok (.ireturn, 1) := dk_get _ da_cX5_at_0 18 _ _ _ rfl
set_option maxRecDepth 20000 in
theorem ggX5_count_X5_isValue : GoodIn wsX5_count wsX5_isValue := goodIn_r _ [5, 6, 7, 4, 8] rfl (by decide +kernel)
set_option maxRecDepth 20000 in
theorem gX5_count_X5_isValue : GoodIn wsX5_count (va_wsS RX5 132 yX5_isValue wsX5_isValue) := goodIn_app (goodIn_r _ [2, 3, 4] rfl (by decide +kernel)) ggX5_count_X5_isValue
set_option maxRecDepth 20000 in
theorem ggX5_count_X5_isRange : GoodIn wsX5_count wsX5_isRange := goodIn_r _ [12, 13, 19, 20, 21, 22, 23, 24, 25, 26, 27, 28, 29, 30, 31, 32, 33, 34, 35, 36, 37, 38, 39, 40, 41, 42, 43, 44, 45, 46, 47, 48] rfl (by decide +kernel)
set_option maxRecDepth 20000 in
theorem gX5_count_X5_isRange : GoodIn wsX5_count (wsV RX5 142 RX5 yX5_isRange wsX5_isRange) := goodIn_app (goodIn_r _ [9, 10, 11, 4] rfl (by decide +kernel)) ggX5_count_X5_isRange
set_option maxRecDepth 20000 in
theorem ggX5_count_X5_times : GoodIn wsX5_count wsX5_times := goodIn_r _ [17, 18, 19, 20, 21, 22, 23, 24, 25, 26, 27, 28, 29, 30, 31, 32, 33, 34, 35, 36, 37, 38, 39, 40, 41, 42, 43, 44, 45, 46, 47, 48] rfl (by decide +kernel)
set_option maxRecDepth 20000 in
theorem gX5_count_X5_times : GoodIn wsX5_count (wsV RX5 149 RX5 yX5_times wsX5_times) := goodIn_app (goodIn_r _ [14, 15, 16, 4] rfl (by decide +kernel)) ggX5_count_X5_times
def dt_cX5_count_0 : List (Nat × Instr × Nat) := [(0, .aload_n 0, 1), (1, .iconst 0, 1), (2, .putfield 77, 3), (5, .iload_n 1, 1), (6, .invokestatic 132, 3), (9, .ifCond .eq 22, 3), (12, .aload_n 0, 1), (13, .iload_n 2, 1), (14, .iload_n 3, 1), (15, .invokevirtual 142, 3), (18, .ifCond .eq 13, 3), (21, .aload_n 0, 1), (22, .iload_n 1, 1), (23, .iload_n 2, 1), (24, .iload_n 3, 1), (25, .invokevirtual 149, 3), (28, .goto 4, 3), (31, .iconst (-1), 1), (32, .ireturn, 1)]
theorem da_cX5_count_0 : dk_all cX5_count dt_cX5_count_0 = true := by decide +kernel
theorem dX5_count_0 : decode cX5_count 0 = .ok (.aload_n 0, 1) := dk_get _ da_cX5_count_0 0 _ _ _ rfl
theorem dX5_count_1 : decode cX5_count 1 = .ok (.iconst 0, 1) := dk_get _ da_cX5_count_0 1 _ _ _ rfl
theorem dX5_count_2 : decode cX5_count 2 = .ok (.putfield 77, 3) := dk_get _ da_cX5_count_0 2 _ _ _ rfl
theorem dX5_count_5 : decode cX5_count 5 = .ok (.iload_n 1, 1) := dk_get _ da_cX5_count_0 3 _ _ _ rfl
theorem dX5_count_6 : decode cX5_count 6 = .ok (.invokestatic 132, 3) := dk_get _ da_cX5_count_0 4 _ _ _ rfl
theorem dX5_count_9 : decode cX5_count 9 = .ok (.ifCond .eq 22, 3) := dk_get _ da_cX5_count_0 5 _ _ _ rfl
theorem dX5_count_12 : decode cX5_count 12 = .ok (.aload_n 0, 1) := dk_get _ da_cX5_count_0 6 _ _ _ rfl
theorem dX5_count_13 : decode cX5_count 13 = .ok (.iload_n 2, 1) := dk_get _ da_cX5_count_0 7 _ _ _ rfl
theorem dX5_count_14 : decode cX5_count 14 = .ok (.iload_n 3, 1) := dk_get _ da_cX5_count_0 8 _ _ _ rfl
theorem dX5_count_15 : decode cX5_count 15 = .ok (.invokevirtual 142, 3) := dk_get _ da_cX5_count_0 9 _ _ _ rfl
theorem dX5_count_18 : decode cX5_count 18 = .ok (.ifCond .eq 13, 3) := dk_get _ da_cX5_count_0 10 _ _ _ rfl
theorem dX5_count_21 : decode cX5_count 21 = .ok (.aload_n 0, 1) := dk_get _ da_cX5_count_0 11 _ _ _ rfl
theorem dX5_count_22 : decode cX5_count 22 = .ok (.iload_n 1, 1) := dk_get _ da_cX5_count_0 12 _ _ _ rfl
theorem dX5_count_23 : decode cX5_count 23 = .ok (.iload_n 2, 1) := dk_get _ da_cX5_count_0 13 _ _ _ rfl
theorem dX5_count_24 : decode cX5_count 24 = .ok (.iload_n 3, 1) := dk_get _ da_cX5_count_0 14 _ _ _ rfl
theorem dX5_count_25 : decode cX5_count 25 = .ok (.invokevirtual 149, 3) := dk_get _ da_cX5_count_0 15 _ _ _ rfl
theorem dX5_count_28 : decode cX5_count 28 = .ok (.goto 4, 3) := dk_get _ da_cX5_count_0 16 _ _ _ rfl
theorem dX5_count_31 : decode cX5_count 31 = .ok (.iconst (-1), 1) := dk_get _ da_cX5_count_0 17 _ _ _ rfl
theorem dX5_count_32 : decode cX5_count 32 = .ok (.ireturn, 1) := dk_get _ da_cX5_count_0 18 _ _ _ rfl
def dt_cX5_place_0 : List (Nat × Instr × Nat) := [(0, .aload_n 0, 1), (1, .iconst 0, 1), (2, .putfield 77, 3), (5, .iload_n 2, 1), (6, .istore_n 3, 1), (7, .iconst 0, 1), (8, .istore 4, 2), (10, .iload 4, 2), (12, .aload_n 0, 1), (13, .getfield 84, 3), (16, .if_icmp .ge 37, 3), (19, .iload_n 2, 1), (20, .ifCond .lt 33, 3), (23, .aload_n 0, 1), (24, .getfield 7, 3), (27, .iload 4, 2), (29, .iaload, 1), (30, .iload_n 1, 1), (31, .if_icmp .eq 6, 3), (34, .goto 13, 3), (37, .iload_n 3, 1), (38, .ifCond .ne 6, 3), (41, .iload 4, 2), (43, .ireturn, 1), (44, .iinc 3 (-1), 3), (47, .iinc 4 1, 3), (50, .goto (-40), 3), (53, .iconst (-1), 1), (54, .ireturn, 1)]
theorem da_cX5_place_0 : dk_all cX5_place dt_cX5_place_0 = true := by decide +kernel
theorem dX5_place_0 : decode cX5_place 0 = .ok (.aload_n 0, 1) := dk_get _ da_cX5_place_0 0 _ _ _ rfl
theorem dX5_place_1 : decode cX5_place 1 = .ok (.iconst 0, 1) := dk_get _ da_cX5_place_0 1 _ _ _ rfl
theorem dX5_place_2 : decode cX5_place 2 = .ok (.putfield 77, 3) := dk_get _ da_cX5_place_0 2 _ _ _ rfl
theorem dX5_place_5 : decode cX5_place 5 = .ok (.iload_n 2, 1) := dk_get _ da_cX5_place_0 3 _ _ _ rfl
theorem dX5_place_6 : decode cX5_place 6 = .ok (.istore_n 3, 1) := dk_get _ da_cX5_place_0 4 _ _ _ rfl
theorem dX5_place_7 : decode cX5_place 7 = .ok (.iconst 0, 1) := dk_get _ da_cX5_place_0 5 _ _ _ rfl
theorem dX5_place_8 : decode cX5_place 8 = .ok (.istore 4, 2) := dk_get _ da_cX5_place_0 6 _ _ _ rfl
theorem dX5_place_10 : decode cX5_place 10 = .ok (.iload 4, 2) := dk_get _ da_cX5_place_0 7 _ _ _ rfl
theorem dX5_place_12 : decode cX5_place 12 = .ok (.aload_n 0, 1) := dk_get _ da_cX5_place_0 8 _ _ _ rfl
theorem dX5_place_13 : decode cX5_place 13 = .ok (.getfield 84, 3) := dk_get _ da_cX5_place_0 9 _ _ _ rfl
theorem dX5_place_16 : decode cX5_place 16 = .ok (.if_icmp .ge 37, 3) := dk_get _ da_cX5_place_0 10 _ _ _ rfl
theorem dX5_place_19 : decode cX5_place 19 = .ok (.iload_n 2, 1) := dk_get _ da_cX5_place_0 11 _ _ _ rfl
theorem dX5_place_20 : decode cX5_place 20 = .ok (.ifCond .lt 33, 3) := dk_get _ da_cX5_place_0 12 _ _ _ rfl
theorem dX5_place_23 : decode cX5_place 23 = .ok (.aload_n 0, 1) := dk_get _ da_cX5_place_0 13 _ _ _ rfl
theorem dX5_place_24 : decode cX5_place 24 = .ok (.getfield 7, 3) := dk_get _ da_cX5_place_0 14 _ _ _ rfl
theorem dX5_place_27 : decode cX5_place 27 = .ok (.iload 4, 2) := dk_get _ da_cX5_place_0 15 _ _ _ rfl
theorem dX5_place_29 : decode cX5_place 29 = .ok (.iaload, 1) := dk_get _ da_cX5_place_0 16 _ _ _ rfl
theorem dX5_place_30 : decode cX5_place 30 = .ok (.iload_n 1, 1) := dk_get _ da_cX5_place_0 17 _ _ _ rfl
theorem dX5_place_31 : decode cX5_place 31 = .ok (.if_icmp .eq 6, 3) := dk_get _ da_cX5_place_0 18 _ _ _ rfl
theorem dX5_place_34 : decode cX5_place 34 = .ok (.goto 13, 3) := dk_get _ da_cX5_place_0 19 _ _ _ rfl
theorem dX5_place_37 : decode cX5_place 37 = .ok (.iload_n 3, 1) := dk_get _ da_cX5_place_0 20 _ _ _ rfl
theorem dX5_place_38 : decode cX5_place 38 = .ok (.ifCond .ne 6, 3) := dk_get _ da_cX5_place_0 21 _ _ _ rfl
theorem dX5_place_41 : decode cX5_place 41 = .ok (.iload 4, 2) := dk_get _ da_cX5_place_0 22 _ _ _ rfl
theorem dX5_place_43 : decode cX5_place 43 = .ok (.ireturn, 1) := dk_get _ da_cX5_place_0 23 _ _ _ rfl
theorem dX5_place_44 : decode cX5_place 44 = .ok (.iinc 3 (-1), 3) := dk_get _ da_cX5_place_0 24 _ _ _ rfl
theorem dX5_place_47 : decode cX5_place 47 = .ok (.iinc 4 1, 3) := dk_get _ da_cX5_place_0 25 _ _ _ rfl
theorem dX5_place_50 : decode cX5_place 50 = .ok (.goto (-40), 3) := dk_get _ da_cX5_place_0 26 _ _ _ rfl
theorem dX5_place_53 : decode cX5_place 53 = .ok (.iconst (-1), 1) := dk_get _ da_cX5_place_0 27 _ _ _ rfl
theorem dX5_place_54 : decode cX5_place 54 = .ok (.ireturn, 1) := dk_get _ da_cX5_place_0 28 _ _ _ rfl
set_option maxRecDepth 20000 in
theorem ggX5_values_X5_times : GoodIn wsX5_values wsX5_times := goodIn_r _ [8, 3, 9, 10, 11, 12, 13, 14, 15, 16, 17, 18, 19, 20, 21, 22, 23, 24, 25, 26, 27, 28, 29, 30, 31, 32, 33, 34, 35, 36, 37, 38] rfl (by decide +kernel)
set_option maxRecDepth 20000 in
theorem gX5_values_X5_times : GoodIn wsX5_values (wsV RX5 149 RX5 yX5_times wsX5_times) := goodIn_app (goodIn_r _ [4, 5, 6, 7] rfl (by decide +kernel)) ggX5_values_X5_times
def dt_cX5_values_0 : List (Nat × Instr × Nat) := [(0, .aload_n 0, 1), (1, .iconst 0, 1), (2, .putfield 77, 3), (5, .iconst 0, 1), (6, .istore_n 1, 1), (7, .iconst 0, 1), (8, .istore_n 2, 1), (9, .iload_n 2, 1), (10, .aload_n 0, 1), (11, .getfield 84, 3), (14, .if_icmp .ge 27, 3), (17, .aload_n 0, 1), (18, .aload_n 0, 1), (19, .getfield 7, 3), (22, .iload_n 2, 1), (23, .iaload, 1), (24, .iconst 0, 1), (25, .iload_n 2, 1), (26, .invokevirtual 149, 3), (29, .ifCond .ne 6, 3), (32, .iinc 1 1, 3), (35, .iinc 2 1, 3), (38, .goto (-29), 3), (41, .iload_n 1, 1), (42, .ireturn, 1)]
theorem da_cX5_values_0 : dk_all cX5_values dt_cX5_values_0 = true := by decide +kernel
theorem dX5_values_0 : decode cX5_values 0 = .ok (.aload_n 0, 1) := dk_get _ da_cX5_values_0 0 _ _ _ rfl
theorem dX5_values_1 : decode cX5_values 1 = .ok (.iconst 0, 1) := dk_get _ da_cX5_values_0 1 _ _ _ rfl
theorem dX5_values_2 : decode cX5_values 2 = .ok (.putfield 77, 3) := dk_get _ da_cX5_values_0 2 _ _ _ rfl
theorem dX5_values_5 : decode cX5_values 5 = .ok (.iconst 0, 1) := dk_get _ da_cX5_values_0 3 _ _ _ rfl
theorem dX5_values_6 : decode cX5_values 6 = .ok (.istore_n 1, 1) := dk_get _ da_cX5_values_0 4 _ _ _ rfl
theorem dX5_values_7 : decode cX5_values 7 = .ok (.iconst 0, 1) := dk_get _ da_cX5_values_0 5 _ _ _ rfl
theorem dX5_values_8 : decode cX5_values 8 = .ok (.istore_n 2, 1) := dk_get _ da_cX5_values_0 6 _ _ _ rfl
theorem dX5_values_9 : decode cX5_values 9 = .ok (.iload_n 2, 1) := dk_get _ da_cX5_values_0 7 _ _ _ rfl
theorem dX5_values_10 : decode cX5_values 10 = .ok (.aload_n 0, 1) := dk_get _ da_cX5_values_0 8 _ _ _ rfl
theorem dX5_values_11 : decode cX5_values 11 = .ok (.getfield 84, 3) := dk_get _ da_cX5_values_0 9 _ _ _ rfl
theorem dX5_values_14 : decode cX5_values 14 = .ok (.if_icmp .ge 27, 3) := dk_get _ da_cX5_values_0 10 _ _ _ rfl
theorem dX5_values_17 : decode cX5_values 17 = .ok (.aload_n 0, 1) := dk_get _ da_cX5_values_0 11 _ _ _ rfl
theorem dX5_values_18 : decode cX5_values 18 = .ok (.aload_n 0, 1) := dk_get _ da_cX5_values_0 12 _ _ _ rfl
theorem dX5_values_19 : decode cX5_values 19 = .ok (.getfield 7, 3) := dk_get _ da_cX5_values_0 13 _ _ _ rfl
theorem dX5_values_22 : decode cX5_values 22 = .ok (.iload_n 2, 1) := dk_get _ da_cX5_values_0 14 _ _ _ rfl
theorem dX5_values_23 : decode cX5_values 23 = .ok (.iaload, 1) := dk_get _ da_cX5_values_0 15 _ _ _ rfl
theorem dX5_values_24 : decode cX5_values 24 = .ok (.iconst 0, 1) := dk_get _ da_cX5_values_0 16 _ _ _ rfl
theorem dX5_values_25 : decode cX5_values 25 = .ok (.iload_n 2, 1) := dk_get _ da_cX5_values_0 17 _ _ _ rfl
theorem dX5_values_26 : decode cX5_values 26 = .ok (.invokevirtual 149, 3) := dk_get _ da_cX5_values_0 18 _ _ _ rfl
theorem dX5_values_29 : decode cX5_values 29 = .ok (.ifCond .ne 6, 3) := dk_get _ da_cX5_values_0 19 _ _ _ rfl
theorem dX5_values_32 : decode cX5_values 32 = .ok (.iinc 1 1, 3) := dk_get _ da_cX5_values_0 20 _ _ _ rfl
theorem dX5_values_35 : decode cX5_values 35 = .ok (.iinc 2 1, 3) := dk_get _ da_cX5_values_0 21 _ _ _ rfl
theorem dX5_values_38 : decode cX5_values 38 = .ok (.goto (-29), 3) := dk_get _ da_cX5_values_0 22 _ _ _ rfl
theorem dX5_values_41 : decode cX5_values 41 = .ok (.iload_n 1, 1) := dk_get _ da_cX5_values_0 23 _ _ _ rfl
theorem dX5_values_42 : decode cX5_values 42 = .ok (.ireturn, 1) := dk_get _ da_cX5_values_0 24 _ _ _ rfl
def dt_cX5_isEnough_0 : List (Nat × Instr × Nat) := [(0, .iload_n 1, 1), (1, .aload_n 0, 1), (2, .getfield 13, 3), (5, .iconst 1, 1), (6, .iadd, 1), (7, .imul, 1), (8, .iload_n 2, 1), (9, .if_icmp .lt 7, 3), (12, .iconst 1, 1), (13, .goto 4, 3), (16, .iconst 0, 1), (17, .ireturn, 1)]
theorem da_cX5_isEnough_0 : dk_all cX5_isEnough dt_cX5_isEnough_0 = true := by decide +kernel
theorem dX5_isEnough_0 : decode cX5_isEnough 0 = .ok (.iload_n 1, 1) := dk_get _ da_cX5_isEnough_0 0 _ _ _ rfl
theorem dX5_isEnough_1 : decode cX5_isEnough 1 = .ok (.aload_n 0, 1) := dk_get _ da_cX5_isEnough_0 1 _ _ _ rfl
theorem dX5_isEnough_2 : decode cX5_isEnough 2 = .ok (.getfield 13, 3) := dk_get _ da_cX5_isEnough_0 2 _ _ _ rfl
theorem dX5_isEnough_5 : decode cX5_isEnough 5 = .ok (.iconst 1, 1) := dk_get _ da_cX5_isEnough_0 3 _ _ _ rfl
theorem dX5_isEnough_6 : decode cX5_isEnough 6 = .ok (.iadd, 1) := dk_get _ da_cX5_isEnough_0 4 _ _ _ rfl
theorem dX5_isEnough_7 : decode cX5_isEnough 7 = .ok (.imul, 1) := dk_get _ da_cX5_isEnough_0 5 _ _ _ rfl
theorem dX5_isEnough_8 : decode cX5_isEnough 8 = .ok (.iload_n 2, 1) := dk_get _ da_cX5_isEnough_0 6 _ _ _ rfl
theorem dX5_isEnough_9 : decode cX5_isEnough 9 = .ok (.if_icmp .lt 7, 3) := dk_get _ da_cX5_isEnough_0 7 _ _ _ rfl
theorem dX5_isEnough_12 : decode cX5_isEnough 12 = .ok (.iconst 1, 1) := dk_get _ da_cX5_isEnough_0 8 _ _ _ rfl
theorem dX5_isEnough_13 : decode cX5_isEnough 13 = .ok (.goto 4, 3) := dk_get _ da_cX5_isEnough_0 9 _ _ _ rfl
theorem dX5_isEnough_16 : decode cX5_isEnough 16 = .ok (.iconst 0, 1) := dk_get _ da_cX5_isEnough_0 10 _ _ _ rfl
theorem dX5_isEnough_17 : decode cX5_isEnough 17 = .ok (.ireturn, 1) := dk_get _ da_cX5_isEnough_0 11 _ _ _ rfl
set_option maxRecDepth 20000 in
theorem ggX5_majorityOf_X5_times : GoodIn wsX5_majorityOf wsX5_times := goodIn_r _ [7, 1, 8, 9, 10, 11, 12, 13, 14, 15, 16, 17, 18, 19, 20, 21, 22, 23, 24, 25, 26, 27, 28, 29, 30, 31, 32, 33, 34, 35, 36, 37] rfl (by decide +kernel)
set_option maxRecDepth 20000 in
theorem gX5_majorityOf_X5_times : GoodIn wsX5_majorityOf (wsV RX5 149 RX5 yX5_times wsX5_times) := goodIn_app (goodIn_r _ [3, 4, 5, 6] rfl (by decide +kernel)) ggX5_majorityOf_X5_times
def dt_cX5_majorityOf_0 : List (Nat × Instr × Nat) := [(0, .iload_n 1, 1), (1, .istore_n 3, 1), (2, .iload_n 3, 1), (3, .iload_n 2, 1), (4, .if_icmp .ge 36, 3), (7, .iconst 2, 1), (8, .aload_n 0, 1), (9, .aload_n 0, 1), (10, .getfield 7, 3), (13, .iload_n 3, 1), (14, .iaload, 1), (15, .iload_n 1, 1), (16, .iload_n 2, 1), (17, .invokevirtual 149, 3), (20, .imul, 1), (21, .iload_n 2, 1), (22, .iload_n 1, 1), (23, .isub, 1), (24, .if_icmp .le 10, 3), (27, .aload_n 0, 1), (28, .getfield 7, 3), (31, .iload_n 3, 1), (32, .iaload, 1), (33, .ireturn, 1), (34, .iinc 3 1, 3), (37, .goto (-35), 3), (40, .ldc 148, 2), (42, .ireturn, 1)]
theorem da_cX5_majorityOf_0 : dk_all cX5_majorityOf dt_cX5_majorityOf_0 = true := by decide +kernel
theorem dX5_majorityOf_0 : decode cX5_majorityOf 0 = .ok (.iload_n 1, 1) := dk_get _ da_cX5_majorityOf_0 0 _ _ _ rfl
theorem dX5_majorityOf_1 : decode cX5_majorityOf 1 = .ok (.istore_n 3, 1) := dk_get _ da_cX5_majorityOf_0 1 _ _ _ rfl
theorem dX5_majorityOf_2 : decode cX5_majorityOf 2 = .ok (.iload_n 3, 1) := dk_get _ da_cX5_majorityOf_0 2 _ _ _ rfl
theorem dX5_majorityOf_3 : decode cX5_majorityOf 3 = .ok (.iload_n 2, 1) := dk_get _ da_cX5_majorityOf_0 3 _ _ _ rfl
theorem dX5_majorityOf_4 : decode cX5_majorityOf 4 = .ok (.if_icmp .ge 36, 3) := dk_get _ da_cX5_majorityOf_0 4 _ _ _ rfl
theorem dX5_majorityOf_7 : decode cX5_majorityOf 7 = .ok (.iconst 2, 1) := dk_get _ da_cX5_majorityOf_0 5 _ _ _ rfl
theorem dX5_majorityOf_8 : decode cX5_majorityOf 8 = .ok (.aload_n 0, 1) := dk_get _ da_cX5_majorityOf_0 6 _ _ _ rfl
theorem dX5_majorityOf_9 : decode cX5_majorityOf 9 = .ok (.aload_n 0, 1) := dk_get _ da_cX5_majorityOf_0 7 _ _ _ rfl
theorem dX5_majorityOf_10 : decode cX5_majorityOf 10 = .ok (.getfield 7, 3) := dk_get _ da_cX5_majorityOf_0 8 _ _ _ rfl
theorem dX5_majorityOf_13 : decode cX5_majorityOf 13 = .ok (.iload_n 3, 1) := dk_get _ da_cX5_majorityOf_0 9 _ _ _ rfl
theorem dX5_majorityOf_14 : decode cX5_majorityOf 14 = .ok (.iaload, 1) := dk_get _ da_cX5_majorityOf_0 10 _ _ _ rfl
theorem dX5_majorityOf_15 : decode cX5_majorityOf 15 = .ok (.iload_n 1, 1) := dk_get _ da_cX5_majorityOf_0 11 _ _ _ rfl
theorem dX5_majorityOf_16 : decode cX5_majorityOf 16 = .ok (.iload_n 2, 1) := dk_get _ da_cX5_majorityOf_0 12 _ _ _ rfl
theorem dX5_majorityOf_17 : decode cX5_majorityOf 17 = .ok (.invokevirtual 149, 3) := dk_get _ da_cX5_majorityOf_0 13 _ _ _ rfl
theorem dX5_majorityOf_20 : decode cX5_majorityOf 20 = .ok (.imul, 1) := dk_get _ da_cX5_majorityOf_0 14 _ _ _ rfl
theorem dX5_majorityOf_21 : decode cX5_majorityOf 21 = .ok (.iload_n 2, 1) := dk_get _ da_cX5_majorityOf_0 15 _ _ _ rfl
theorem dX5_majorityOf_22 : decode cX5_majorityOf 22 = .ok (.iload_n 1, 1) := dk_get _ da_cX5_majorityOf_0 16 _ _ _ rfl
theorem dX5_majorityOf_23 : decode cX5_majorityOf 23 = .ok (.isub, 1) := dk_get _ da_cX5_majorityOf_0 17 _ _ _ rfl
theorem dX5_majorityOf_24 : decode cX5_majorityOf 24 = .ok (.if_icmp .le 10, 3) := dk_get _ da_cX5_majorityOf_0 18 _ _ _ rfl
theorem dX5_majorityOf_27 : decode cX5_majorityOf 27 = .ok (.aload_n 0, 1) := dk_get _ da_cX5_majorityOf_0 19 _ _ _ rfl
theorem dX5_majorityOf_28 : decode cX5_majorityOf 28 = .ok (.getfield 7, 3) := dk_get _ da_cX5_majorityOf_0 20 _ _ _ rfl
theorem dX5_majorityOf_31 : decode cX5_majorityOf 31 = .ok (.iload_n 3, 1) := dk_get _ da_cX5_majorityOf_0 21 _ _ _ rfl
theorem dX5_majorityOf_32 : decode cX5_majorityOf 32 = .ok (.iaload, 1) := dk_get _ da_cX5_majorityOf_0 22 _ _ _ rfl
theorem dX5_majorityOf_33 : decode cX5_majorityOf 33 = .ok (.ireturn, 1) := dk_get _ da_cX5_majorityOf_0 23 _ _ _ rfl
theorem dX5_majorityOf_34 : decode cX5_majorityOf 34 = .ok (.iinc 3 1, 3) := dk_get _ da_cX5_majorityOf_0 24 _ _ _ rfl
theorem dX5_majorityOf_37 : decode cX5_majorityOf 37 = .ok (.goto (-35), 3) := dk_get _ da_cX5_majorityOf_0 25 _ _ _ rfl
theorem dX5_majorityOf_40 : decode cX5_majorityOf 40 = .ok (.ldc 148, 2) := dk_get _ da_cX5_majorityOf_0 26 _ _ _ rfl
theorem dX5_majorityOf_42 : decode cX5_majorityOf 42 = .ok (.ireturn, 1) := dk_get _ da_cX5_majorityOf_0 27 _ _ _ rfl
set_option maxRecDepth 20000 in
theorem ggX5_majority_X5_isRange : GoodIn wsX5_majority wsX5_isRange := goodIn_r _ [7, 8, 18, 19, 20, 21, 22, 23, 24, 25, 26, 27, 28, 29, 30, 31, 32, 33, 34, 35, 36, 37, 38, 39, 40, 41, 42, 43, 44, 45, 46, 47] rfl (by decide +kernel)
set_option maxRecDepth 20000 in
theorem gX5_majority_X5_isRange : GoodIn wsX5_majority (wsV RX5 142 RX5 yX5_isRange wsX5_isRange) := goodIn_app (goodIn_r _ [3, 4, 5, 6] rfl (by decide +kernel)) ggX5_majority_X5_isRange
set_option maxRecDepth 20000 in
theorem ggX5_majority_X5_majorityOf : GoodIn wsX5_majority wsX5_majorityOf := goodIn_r _ [12, 13, 2, 14, 15, 16, 6, 17, 18, 19, 20, 21, 22, 23, 24, 25, 26, 27, 28, 29, 30, 31, 32, 33, 34, 35, 36, 37, 38, 39, 40, 41, 42, 43, 44, 45, 46, 47] rfl (by decide +kernel)
set_option maxRecDepth 20000 in
theorem gX5_majority_X5_majorityOf : GoodIn wsX5_majority (wsV RX5 194 RX5 yX5_majorityOf wsX5_majorityOf) := goodIn_app (goodIn_r _ [9, 10, 11, 6] rfl (by decide +kernel)) ggX5_majority_X5_majorityOf
def dt_cX5_majority_0 : List (Nat × Instr × Nat) := [(0, .aload_n 0, 1), (1, .iconst 0, 1), (2, .putfield 77, 3), (5, .aload_n 0, 1), (6, .iload_n 1, 1), (7, .iload_n 2, 1), (8, .invokevirtual 142, 3), (11, .ifCond .eq 12, 3), (14, .aload_n 0, 1), (15, .iload_n 1, 1), (16, .iload_n 2, 1), (17, .invokevirtual 194, 3), (20, .goto 5, 3), (23, .ldc 148, 2), (25, .ireturn, 1)]
theorem da_cX5_majority_0 : dk_all cX5_majority dt_cX5_majority_0 = true := by decide +kernel
theorem dX5_majority_0 : decode cX5_majority 0 = .ok (.aload_n 0, 1) := dk_get _ da_cX5_majority_0 0 _ _ _ rfl
theorem dX5_majority_1 : decode cX5_majority 1 = .ok (.iconst 0, 1) := dk_get _ da_cX5_majority_0 1 _ _ _ rfl
theorem dX5_majority_2 : decode cX5_majority 2 = .ok (.putfield 77, 3) := dk_get _ da_cX5_majority_0 2 _ _ _ rfl
theorem dX5_majority_5 : decode cX5_majority 5 = .ok (.aload_n 0, 1) := dk_get _ da_cX5_majority_0 3 _ _ _ rfl
theorem dX5_majority_6 : decode cX5_majority 6 = .ok (.iload_n 1, 1) := dk_get _ da_cX5_majority_0 4 _ _ _ rfl
theorem dX5_majority_7 : decode cX5_majority 7 = .ok (.iload_n 2, 1) := dk_get _ da_cX5_majority_0 5 _ _ _ rfl
theorem dX5_majority_8 : decode cX5_majority 8 = .ok (.invokevirtual 142, 3) := dk_get _ da_cX5_majority_0 6 _ _ _ rfl
theorem dX5_majority_11 : decode cX5_majority 11 = .ok (.ifCond .eq 12, 3) := dk_get _ da_cX5_majority_0 7 _ _ _ rfl
theorem dX5_majority_14 : decode cX5_majority 14 = .ok (.aload_n 0, 1) := dk_get _ da_cX5_majority_0 8 _ _ _ rfl
theorem dX5_majority_15 : decode cX5_majority 15 = .ok (.iload_n 1, 1) := dk_get _ da_cX5_majority_0 9 _ _ _ rfl
theorem dX5_majority_16 : decode cX5_majority 16 = .ok (.iload_n 2, 1) := dk_get _ da_cX5_majority_0 10 _ _ _ rfl
theorem dX5_majority_17 : decode cX5_majority 17 = .ok (.invokevirtual 194, 3) := dk_get _ da_cX5_majority_0 11 _ _ _ rfl
theorem dX5_majority_20 : decode cX5_majority 20 = .ok (.goto 5, 3) := dk_get _ da_cX5_majority_0 12 _ _ _ rfl
theorem dX5_majority_23 : decode cX5_majority 23 = .ok (.ldc 148, 2) := dk_get _ da_cX5_majority_0 13 _ _ _ rfl
theorem dX5_majority_25 : decode cX5_majority 25 = .ok (.ireturn, 1) := dk_get _ da_cX5_majority_0 14 _ _ _ rfl
set_option maxRecDepth 20000 in
theorem ggX5_margin_X5_isValue : GoodIn wsX5_margin wsX5_isValue := goodIn_r _ [6, 7, 8, 5, 9] rfl (by decide +kernel)
set_option maxRecDepth 20000 in
theorem gX5_margin_X5_isValue : GoodIn wsX5_margin (va_wsS RX5 132 yX5_isValue wsX5_isValue) := goodIn_app (goodIn_r _ [3, 4, 5] rfl (by decide +kernel)) ggX5_margin_X5_isValue
set_option maxRecDepth 20000 in
theorem ggX5_margin_X5_isRange : GoodIn wsX5_margin wsX5_isRange := goodIn_r _ [13, 14, 20, 21, 22, 23, 24, 25, 26, 27, 28, 29, 30, 31, 32, 33, 34, 35, 36, 37, 38, 39, 40, 41, 42, 43, 44, 45, 46, 47, 48, 49] rfl (by decide +kernel)
set_option maxRecDepth 20000 in
theorem gX5_margin_X5_isRange : GoodIn wsX5_margin (wsV RX5 142 RX5 yX5_isRange wsX5_isRange) := goodIn_app (goodIn_r _ [10, 11, 12, 5] rfl (by decide +kernel)) ggX5_margin_X5_isRange
set_option maxRecDepth 20000 in
theorem ggX5_margin_X5_times : GoodIn wsX5_margin wsX5_times := goodIn_r _ [18, 19, 20, 21, 22, 23, 24, 25, 26, 27, 28, 29, 30, 31, 32, 33, 34, 35, 36, 37, 38, 39, 40, 41, 42, 43, 44, 45, 46, 47, 48, 49] rfl (by decide +kernel)
set_option maxRecDepth 20000 in
theorem gX5_margin_X5_times : GoodIn wsX5_margin (wsV RX5 149 RX5 yX5_times wsX5_times) := goodIn_app (goodIn_r _ [15, 16, 17, 5] rfl (by decide +kernel)) ggX5_margin_X5_times
def dt_cX5_margin_0 : List (Nat × Instr × Nat) := [(0, .aload_n 0, 1), (1, .iconst 0, 1), (2, .putfield 77, 3), (5, .iload_n 1, 1), (6, .invokestatic 132, 3), (9, .ifCond .eq 28, 3), (12, .aload_n 0, 1), (13, .iload_n 2, 1), (14, .iload_n 3, 1), (15, .invokevirtual 142, 3), (18, .ifCond .eq 19, 3), (21, .iconst 2, 1), (22, .aload_n 0, 1), (23, .iload_n 1, 1), (24, .iload_n 2, 1), (25, .iload_n 3, 1), (26, .invokevirtual 149, 3), (29, .imul, 1), (30, .iload_n 3, 1), (31, .iload_n 2, 1), (32, .isub, 1), (33, .isub, 1), (34, .goto 5, 3), (37, .ldc 148, 2), (39, .ireturn, 1)]
theorem da_cX5_margin_0 : dk_all cX5_margin dt_cX5_margin_0 = true := by decide +kernel
theorem dX5_margin_0 : decode cX5_margin 0 = .ok (.aload_n 0, 1) := dk_get _ da_cX5_margin_0 0 _ _ _ rfl
theorem dX5_margin_1 : decode cX5_margin 1 = .ok (.iconst 0, 1) := dk_get _ da_cX5_margin_0 1 _ _ _ rfl
theorem dX5_margin_2 : decode cX5_margin 2 = .ok (.putfield 77, 3) := dk_get _ da_cX5_margin_0 2 _ _ _ rfl
theorem dX5_margin_5 : decode cX5_margin 5 = .ok (.iload_n 1, 1) := dk_get _ da_cX5_margin_0 3 _ _ _ rfl
theorem dX5_margin_6 : decode cX5_margin 6 = .ok (.invokestatic 132, 3) := dk_get _ da_cX5_margin_0 4 _ _ _ rfl
theorem dX5_margin_9 : decode cX5_margin 9 = .ok (.ifCond .eq 28, 3) := dk_get _ da_cX5_margin_0 5 _ _ _ rfl
theorem dX5_margin_12 : decode cX5_margin 12 = .ok (.aload_n 0, 1) := dk_get _ da_cX5_margin_0 6 _ _ _ rfl
theorem dX5_margin_13 : decode cX5_margin 13 = .ok (.iload_n 2, 1) := dk_get _ da_cX5_margin_0 7 _ _ _ rfl
theorem dX5_margin_14 : decode cX5_margin 14 = .ok (.iload_n 3, 1) := dk_get _ da_cX5_margin_0 8 _ _ _ rfl
theorem dX5_margin_15 : decode cX5_margin 15 = .ok (.invokevirtual 142, 3) := dk_get _ da_cX5_margin_0 9 _ _ _ rfl
theorem dX5_margin_18 : decode cX5_margin 18 = .ok (.ifCond .eq 19, 3) := dk_get _ da_cX5_margin_0 10 _ _ _ rfl
theorem dX5_margin_21 : decode cX5_margin 21 = .ok (.iconst 2, 1) := dk_get _ da_cX5_margin_0 11 _ _ _ rfl
theorem dX5_margin_22 : decode cX5_margin 22 = .ok (.aload_n 0, 1) := dk_get _ da_cX5_margin_0 12 _ _ _ rfl
theorem dX5_margin_23 : decode cX5_margin 23 = .ok (.iload_n 1, 1) := dk_get _ da_cX5_margin_0 13 _ _ _ rfl
theorem dX5_margin_24 : decode cX5_margin 24 = .ok (.iload_n 2, 1) := dk_get _ da_cX5_margin_0 14 _ _ _ rfl
theorem dX5_margin_25 : decode cX5_margin 25 = .ok (.iload_n 3, 1) := dk_get _ da_cX5_margin_0 15 _ _ _ rfl
theorem dX5_margin_26 : decode cX5_margin 26 = .ok (.invokevirtual 149, 3) := dk_get _ da_cX5_margin_0 16 _ _ _ rfl
theorem dX5_margin_29 : decode cX5_margin 29 = .ok (.imul, 1) := dk_get _ da_cX5_margin_0 17 _ _ _ rfl
theorem dX5_margin_30 : decode cX5_margin 30 = .ok (.iload_n 3, 1) := dk_get _ da_cX5_margin_0 18 _ _ _ rfl
theorem dX5_margin_31 : decode cX5_margin 31 = .ok (.iload_n 2, 1) := dk_get _ da_cX5_margin_0 19 _ _ _ rfl
theorem dX5_margin_32 : decode cX5_margin 32 = .ok (.isub, 1) := dk_get _ da_cX5_margin_0 20 _ _ _ rfl
theorem dX5_margin_33 : decode cX5_margin 33 = .ok (.isub, 1) := dk_get _ da_cX5_margin_0 21 _ _ _ rfl
theorem dX5_margin_34 : decode cX5_margin 34 = .ok (.goto 5, 3) := dk_get _ da_cX5_margin_0 22 _ _ _ rfl
theorem dX5_margin_37 : decode cX5_margin 37 = .ok (.ldc 148, 2) := dk_get _ da_cX5_margin_0 23 _ _ _ rfl
theorem dX5_margin_39 : decode cX5_margin 39 = .ok (.ireturn, 1) := dk_get _ da_cX5_margin_0 24 _ _ _ rfl
set_option maxRecDepth 20000 in
theorem ggX5_longest_X5_isValue : GoodIn wsX5_longest wsX5_isValue := goodIn_r _ [7, 8, 9, 6, 10] rfl (by decide +kernel)
set_option maxRecDepth 20000 in
theorem gX5_longest_X5_isValue : GoodIn wsX5_longest (va_wsS RX5 132 yX5_isValue wsX5_isValue) := goodIn_app (goodIn_r _ [4, 5, 6] rfl (by decide +kernel)) ggX5_longest_X5_isValue
set_option maxRecDepth 20000 in
theorem ggX5_longest_X5_isShare : GoodIn wsX5_longest wsX5_isShare := goodIn_r _ [13, 8, 9, 6, 10] rfl (by decide +kernel)
set_option maxRecDepth 20000 in
theorem gX5_longest_X5_isShare : GoodIn wsX5_longest (va_wsS RX5 184 yX5_isShare wsX5_isShare) := goodIn_app (goodIn_r _ [11, 12, 6] rfl (by decide +kernel)) ggX5_longest_X5_isShare
set_option maxRecDepth 20000 in
theorem ggX5_longest_X5_within : GoodIn wsX5_longest wsX5_within := goodIn_r _ [10] rfl (by decide +kernel)
set_option maxRecDepth 20000 in
theorem gX5_longest_X5_within : GoodIn wsX5_longest (va_wsS RX5 80 yX5_within wsX5_within) := goodIn_app (goodIn_r _ [8, 9, 6] rfl (by decide +kernel)) ggX5_longest_X5_within
def dt_cX5_longest_0 : List (Nat × Instr × Nat) := [(0, .aload_n 0, 1), (1, .iconst 0, 1), (2, .putfield 77, 3), (5, .iload_n 1, 1), (6, .invokestatic 132, 3), (9, .ifCond .eq 21, 3), (12, .iload_n 2, 1), (13, .iload_n 3, 1), (14, .invokestatic 184, 3), (17, .ifCond .eq 13, 3), (20, .iload 4, 2), (22, .iconst 0, 1), (23, .iconst 1, 1), (24, .invokestatic 80, 3), (27, .ifCond .ne 5, 3), (30, .iconst (-1), 1), (31, .ireturn, 1), (32, .iconst (-1), 1), (33, .istore 5, 2), (35, .iconst (-1), 1), (36, .istore 6, 2), (38, .iconst 0, 1), (39, .istore 7, 2), (41, .iload 7, 2), (43, .aload_n 0, 1), (44, .getfield 84, 3), (47, .if_icmp .ge 92, 3), (50, .iconst 0, 1), (51, .istore 8, 2), (53, .iload 7, 2), (55, .iconst 1, 1), (56, .iadd, 1), (57, .istore 9, 2), (59, .iload 9, 2), (61, .aload_n 0, 1), (62, .getfield 84, 3), (65, .if_icmp .gt 68, 3), (68, .aload_n 0, 1), (69, .getfield 7, 3), (72, .iload 9, 2), (74, .iconst 1, 1), (75, .isub, 1), (76, .iaload, 1), (77, .iload_n 1, 1), (78, .if_icmp .ne 6, 3), (81, .iinc 8 1, 3), (84, .iload 8, 2), (86, .iload_n 3, 1), (87, .imul, 1), (88, .iload_n 2, 1), (89, .iload 9, 2), (91, .iload 7, 2), (93, .isub, 1), (94, .imul, 1), (95, .if_icmp .le 32, 3), (98, .iload 5, 2), (100, .ifCond .lt 19, 3), (103, .iload 9, 2), (105, .iload 7, 2), (107, .isub, 1)]
theorem da_cX5_longest_0 : dk_all cX5_longest dt_cX5_longest_0 = true := by decide +kernel
theorem dX5_longest_0 : decode cX5_longest 0 = .ok (.aload_n 0, 1) := dk_get _ da_cX5_longest_0 0 _ _ _ rfl
theorem dX5_longest_1 : decode cX5_longest 1 = .ok (.iconst 0, 1) := dk_get _ da_cX5_longest_0 1 _ _ _ rfl
theorem dX5_longest_2 : decode cX5_longest 2 = .ok (.putfield 77, 3) := dk_get _ da_cX5_longest_0 2 _ _ _ rfl
theorem dX5_longest_5 : decode cX5_longest 5 = .ok (.iload_n 1, 1) := dk_get _ da_cX5_longest_0 3 _ _ _ rfl
theorem dX5_longest_6 : decode cX5_longest 6 = .ok (.invokestatic 132, 3) := dk_get _ da_cX5_longest_0 4 _ _ _ rfl
theorem dX5_longest_9 : decode cX5_longest 9 = .ok (.ifCond .eq 21, 3) := dk_get _ da_cX5_longest_0 5 _ _ _ rfl
theorem dX5_longest_12 : decode cX5_longest 12 = .ok (.iload_n 2, 1) := dk_get _ da_cX5_longest_0 6 _ _ _ rfl
theorem dX5_longest_13 : decode cX5_longest 13 = .ok (.iload_n 3, 1) := dk_get _ da_cX5_longest_0 7 _ _ _ rfl
theorem dX5_longest_14 : decode cX5_longest 14 = .ok (.invokestatic 184, 3) := dk_get _ da_cX5_longest_0 8 _ _ _ rfl
theorem dX5_longest_17 : decode cX5_longest 17 = .ok (.ifCond .eq 13, 3) := dk_get _ da_cX5_longest_0 9 _ _ _ rfl
theorem dX5_longest_20 : decode cX5_longest 20 = .ok (.iload 4, 2) := dk_get _ da_cX5_longest_0 10 _ _ _ rfl
theorem dX5_longest_22 : decode cX5_longest 22 = .ok (.iconst 0, 1) := dk_get _ da_cX5_longest_0 11 _ _ _ rfl
theorem dX5_longest_23 : decode cX5_longest 23 = .ok (.iconst 1, 1) := dk_get _ da_cX5_longest_0 12 _ _ _ rfl
theorem dX5_longest_24 : decode cX5_longest 24 = .ok (.invokestatic 80, 3) := dk_get _ da_cX5_longest_0 13 _ _ _ rfl
theorem dX5_longest_27 : decode cX5_longest 27 = .ok (.ifCond .ne 5, 3) := dk_get _ da_cX5_longest_0 14 _ _ _ rfl
theorem dX5_longest_30 : decode cX5_longest 30 = .ok (.iconst (-1), 1) := dk_get _ da_cX5_longest_0 15 _ _ _ rfl
theorem dX5_longest_31 : decode cX5_longest 31 = .ok (.ireturn, 1) := dk_get _ da_cX5_longest_0 16 _ _ _ rfl
theorem dX5_longest_32 : decode cX5_longest 32 = .ok (.iconst (-1), 1) := dk_get _ da_cX5_longest_0 17 _ _ _ rfl
theorem dX5_longest_33 : decode cX5_longest 33 = .ok (.istore 5, 2) := dk_get _ da_cX5_longest_0 18 _ _ _ rfl
theorem dX5_longest_35 : decode cX5_longest 35 = .ok (.iconst (-1), 1) := dk_get _ da_cX5_longest_0 19 _ _ _ rfl
theorem dX5_longest_36 : decode cX5_longest 36 = .ok (.istore 6, 2) := dk_get _ da_cX5_longest_0 20 _ _ _ rfl
theorem dX5_longest_38 : decode cX5_longest 38 = .ok (.iconst 0, 1) := dk_get _ da_cX5_longest_0 21 _ _ _ rfl
theorem dX5_longest_39 : decode cX5_longest 39 = .ok (.istore 7, 2) := dk_get _ da_cX5_longest_0 22 _ _ _ rfl
theorem dX5_longest_41 : decode cX5_longest 41 = .ok (.iload 7, 2) := dk_get _ da_cX5_longest_0 23 _ _ _ rfl
theorem dX5_longest_43 : decode cX5_longest 43 = .ok (.aload_n 0, 1) := dk_get _ da_cX5_longest_0 24 _ _ _ rfl
theorem dX5_longest_44 : decode cX5_longest 44 = .ok (.getfield 84, 3) := dk_get _ da_cX5_longest_0 25 _ _ _ rfl
theorem dX5_longest_47 : decode cX5_longest 47 = .ok (.if_icmp .ge 92, 3) := dk_get _ da_cX5_longest_0 26 _ _ _ rfl
theorem dX5_longest_50 : decode cX5_longest 50 = .ok (.iconst 0, 1) := dk_get _ da_cX5_longest_0 27 _ _ _ rfl
theorem dX5_longest_51 : decode cX5_longest 51 = .ok (.istore 8, 2) := dk_get _ da_cX5_longest_0 28 _ _ _ rfl
theorem dX5_longest_53 : decode cX5_longest 53 = .ok (.iload 7, 2) := dk_get _ da_cX5_longest_0 29 _ _ _ rfl
theorem dX5_longest_55 : decode cX5_longest 55 = .ok (.iconst 1, 1) := dk_get _ da_cX5_longest_0 30 _ _ _ rfl
theorem dX5_longest_56 : decode cX5_longest 56 = .ok (.iadd, 1) := dk_get _ da_cX5_longest_0 31 _ _ _ rfl
theorem dX5_longest_57 : decode cX5_longest 57 = .ok (.istore 9, 2) := dk_get _ da_cX5_longest_0 32 _ _ _ rfl
theorem dX5_longest_59 : decode cX5_longest 59 = .ok (.iload 9, 2) := dk_get _ da_cX5_longest_0 33 _ _ _ rfl
theorem dX5_longest_61 : decode cX5_longest 61 = .ok (.aload_n 0, 1) := dk_get _ da_cX5_longest_0 34 _ _ _ rfl
theorem dX5_longest_62 : decode cX5_longest 62 = .ok (.getfield 84, 3) := dk_get _ da_cX5_longest_0 35 _ _ _ rfl
theorem dX5_longest_65 : decode cX5_longest 65 = .ok (.if_icmp .gt 68, 3) := dk_get _ da_cX5_longest_0 36 _ _ _ rfl
theorem dX5_longest_68 : decode cX5_longest 68 = .ok (.aload_n 0, 1) := dk_get _ da_cX5_longest_0 37 _ _ _ rfl
theorem dX5_longest_69 : decode cX5_longest 69 = .ok (.getfield 7, 3) := dk_get _ da_cX5_longest_0 38 _ _ _ rfl
theorem dX5_longest_72 : decode cX5_longest 72 = .ok (.iload 9, 2) := dk_get _ da_cX5_longest_0 39 _ _ _ rfl
theorem dX5_longest_74 : decode cX5_longest 74 = .ok (.iconst 1, 1) := dk_get _ da_cX5_longest_0 40 _ _ _ rfl
theorem dX5_longest_75 : decode cX5_longest 75 = .ok (.isub, 1) := dk_get _ da_cX5_longest_0 41 _ _ _ rfl
theorem dX5_longest_76 : decode cX5_longest 76 = .ok (.iaload, 1) := dk_get _ da_cX5_longest_0 42 _ _ _ rfl
theorem dX5_longest_77 : decode cX5_longest 77 = .ok (.iload_n 1, 1) := dk_get _ da_cX5_longest_0 43 _ _ _ rfl
theorem dX5_longest_78 : decode cX5_longest 78 = .ok (.if_icmp .ne 6, 3) := dk_get _ da_cX5_longest_0 44 _ _ _ rfl
theorem dX5_longest_81 : decode cX5_longest 81 = .ok (.iinc 8 1, 3) := dk_get _ da_cX5_longest_0 45 _ _ _ rfl
theorem dX5_longest_84 : decode cX5_longest 84 = .ok (.iload 8, 2) := dk_get _ da_cX5_longest_0 46 _ _ _ rfl
theorem dX5_longest_86 : decode cX5_longest 86 = .ok (.iload_n 3, 1) := dk_get _ da_cX5_longest_0 47 _ _ _ rfl
theorem dX5_longest_87 : decode cX5_longest 87 = .ok (.imul, 1) := dk_get _ da_cX5_longest_0 48 _ _ _ rfl
theorem dX5_longest_88 : decode cX5_longest 88 = .ok (.iload_n 2, 1) := dk_get _ da_cX5_longest_0 49 _ _ _ rfl
theorem dX5_longest_89 : decode cX5_longest 89 = .ok (.iload 9, 2) := dk_get _ da_cX5_longest_0 50 _ _ _ rfl
theorem dX5_longest_91 : decode cX5_longest 91 = .ok (.iload 7, 2) := dk_get _ da_cX5_longest_0 51 _ _ _ rfl
theorem dX5_longest_93 : decode cX5_longest 93 = .ok (.isub, 1) := dk_get _ da_cX5_longest_0 52 _ _ _ rfl
theorem dX5_longest_94 : decode cX5_longest 94 = .ok (.imul, 1) := dk_get _ da_cX5_longest_0 53 _ _ _ rfl
theorem dX5_longest_95 : decode cX5_longest 95 = .ok (.if_icmp .le 32, 3) := dk_get _ da_cX5_longest_0 54 _ _ _ rfl
theorem dX5_longest_98 : decode cX5_longest 98 = .ok (.iload 5, 2) := dk_get _ da_cX5_longest_0 55 _ _ _ rfl
theorem dX5_longest_100 : decode cX5_longest 100 = .ok (.ifCond .lt 19, 3) := dk_get _ da_cX5_longest_0 56 _ _ _ rfl
theorem dX5_longest_103 : decode cX5_longest 103 = .ok (.iload 9, 2) := dk_get _ da_cX5_longest_0 57 _ _ _ rfl
theorem dX5_longest_105 : decode cX5_longest 105 = .ok (.iload 7, 2) := dk_get _ da_cX5_longest_0 58 _ _ _ rfl
theorem dX5_longest_107 : decode cX5_longest 107 = .ok (.isub, 1) := dk_get _ da_cX5_longest_0 59 _ _ _ rfl
def dt_cX5_longest_1 : List (Nat × Instr × Nat) := [(108, .iload 6, 2), (110, .iload 5, 2), (112, .isub, 1), (113, .if_icmp .gt 6, 3), (116, .goto 11, 3), (119, .iload 7, 2), (121, .istore 5, 2), (123, .iload 9, 2), (125, .istore 6, 2), (127, .iinc 9 1, 3), (130, .goto (-71), 3), (133, .iinc 7 1, 3), (136, .goto (-95), 3), (139, .iload 4, 2), (141, .ifCond .ne 8, 3), (144, .iload 5, 2), (146, .goto 5, 3), (149, .iload 6, 2), (151, .ireturn, 1)]
theorem da_cX5_longest_1 : dk_all cX5_longest dt_cX5_longest_1 = true := by decide +kernel
theorem dX5_longest_108 : decode cX5_longest 108 = .ok (.iload 6, 2) := dk_get _ da_cX5_longest_1 0 _ _ _ rfl
theorem dX5_longest_110 : decode cX5_longest 110 = .ok (.iload 5, 2) := dk_get _ da_cX5_longest_1 1 _ _ _ rfl
theorem dX5_longest_112 : decode cX5_longest 112 = .ok (.isub, 1) := dk_get _ da_cX5_longest_1 2 _ _ _ rfl
theorem dX5_longest_113 : decode cX5_longest 113 = .ok (.if_icmp .gt 6, 3) := dk_get _ da_cX5_longest_1 3 _ _ _ rfl
theorem dX5_longest_116 : decode cX5_longest 116 = .ok (.goto 11, 3) := dk_get _ da_cX5_longest_1 4 _ _ _ rfl
theorem dX5_longest_119 : decode cX5_longest 119 = .ok (.iload 7, 2) := dk_get _ da_cX5_longest_1 5 _ _ _ rfl
theorem dX5_longest_121 : decode cX5_longest 121 = .ok (.istore 5, 2) := dk_get _ da_cX5_longest_1 6 _ _ _ rfl
theorem dX5_longest_123 : decode cX5_longest 123 = .ok (.iload 9, 2) := dk_get _ da_cX5_longest_1 7 _ _ _ rfl
theorem dX5_longest_125 : decode cX5_longest 125 = .ok (.istore 6, 2) := dk_get _ da_cX5_longest_1 8 _ _ _ rfl
theorem dX5_longest_127 : decode cX5_longest 127 = .ok (.iinc 9 1, 3) := dk_get _ da_cX5_longest_1 9 _ _ _ rfl
theorem dX5_longest_130 : decode cX5_longest 130 = .ok (.goto (-71), 3) := dk_get _ da_cX5_longest_1 10 _ _ _ rfl
theorem dX5_longest_133 : decode cX5_longest 133 = .ok (.iinc 7 1, 3) := dk_get _ da_cX5_longest_1 11 _ _ _ rfl
theorem dX5_longest_136 : decode cX5_longest 136 = .ok (.goto (-95), 3) := dk_get _ da_cX5_longest_1 12 _ _ _ rfl
theorem dX5_longest_139 : decode cX5_longest 139 = .ok (.iload 4, 2) := dk_get _ da_cX5_longest_1 13 _ _ _ rfl
theorem dX5_longest_141 : decode cX5_longest 141 = .ok (.ifCond .ne 8, 3) := dk_get _ da_cX5_longest_1 14 _ _ _ rfl
theorem dX5_longest_144 : decode cX5_longest 144 = .ok (.iload 5, 2) := dk_get _ da_cX5_longest_1 15 _ _ _ rfl
theorem dX5_longest_146 : decode cX5_longest 146 = .ok (.goto 5, 3) := dk_get _ da_cX5_longest_1 16 _ _ _ rfl
theorem dX5_longest_149 : decode cX5_longest 149 = .ok (.iload 6, 2) := dk_get _ da_cX5_longest_1 17 _ _ _ rfl
theorem dX5_longest_151 : decode cX5_longest 151 = .ok (.ireturn, 1) := dk_get _ da_cX5_longest_1 18 _ _ _ rfl
set_option maxRecDepth 20000 in
theorem ggX5_cut_X5_isRange : GoodIn wsX5_cut wsX5_isRange := goodIn_r _ [7, 8, 18, 19, 20, 21, 22, 23, 24, 25, 26, 27, 28, 29, 30, 31, 32, 33, 34, 35, 36, 37, 38, 39, 40, 41, 42, 43, 44, 45, 46, 47] rfl (by decide +kernel)
set_option maxRecDepth 20000 in
theorem gX5_cut_X5_isRange : GoodIn wsX5_cut (wsV RX5 142 RX5 yX5_isRange wsX5_isRange) := goodIn_app (goodIn_r _ [3, 4, 5, 6] rfl (by decide +kernel)) ggX5_cut_X5_isRange
set_option maxRecDepth 20000 in
theorem ggX5_cut_X5_majorityOf : GoodIn wsX5_cut wsX5_majorityOf := goodIn_r _ [12, 13, 2, 14, 15, 16, 6, 17, 18, 19, 20, 21, 22, 23, 24, 25, 26, 27, 28, 29, 30, 31, 32, 33, 34, 35, 36, 37, 38, 39, 40, 41, 42, 43, 44, 45, 46, 47] rfl (by decide +kernel)
set_option maxRecDepth 20000 in
theorem gX5_cut_X5_majorityOf : GoodIn wsX5_cut (wsV RX5 194 RX5 yX5_majorityOf wsX5_majorityOf) := goodIn_app (goodIn_r _ [9, 10, 11, 6] rfl (by decide +kernel)) ggX5_cut_X5_majorityOf
def dt_cX5_cut_0 : List (Nat × Instr × Nat) := [(0, .aload_n 0, 1), (1, .iconst 0, 1), (2, .putfield 77, 3), (5, .aload_n 0, 1), (6, .iload_n 1, 1), (7, .iload_n 2, 1), (8, .invokevirtual 142, 3), (11, .ifCond .ne 5, 3), (14, .iconst (-1), 1), (15, .ireturn, 1), (16, .iload_n 1, 1), (17, .iconst 1, 1), (18, .iadd, 1), (19, .istore_n 3, 1), (20, .iload_n 3, 1), (21, .iload_n 2, 1), (22, .if_icmp .ge 48, 3), (25, .aload_n 0, 1), (26, .iload_n 1, 1), (27, .iload_n 3, 1), (28, .invokevirtual 194, 3), (31, .istore 4, 2), (33, .aload_n 0, 1), (34, .iload_n 3, 1), (35, .iload_n 2, 1), (36, .invokevirtual 194, 3), (39, .istore 5, 2), (41, .iload 4, 2), (43, .ldc 148, 2), (45, .if_icmp .eq 19, 3), (48, .iload 5, 2), (50, .ldc 148, 2), (52, .if_icmp .eq 12, 3), (55, .iload 4, 2), (57, .iload 5, 2), (59, .if_icmp .eq 5, 3), (62, .iload_n 3, 1), (63, .ireturn, 1), (64, .iinc 3 1, 3), (67, .goto (-47), 3), (70, .iconst (-1), 1), (71, .ireturn, 1)]
theorem da_cX5_cut_0 : dk_all cX5_cut dt_cX5_cut_0 = true := by decide +kernel
theorem dX5_cut_0 : decode cX5_cut 0 = .ok (.aload_n 0, 1) := dk_get _ da_cX5_cut_0 0 _ _ _ rfl
theorem dX5_cut_1 : decode cX5_cut 1 = .ok (.iconst 0, 1) := dk_get _ da_cX5_cut_0 1 _ _ _ rfl
theorem dX5_cut_2 : decode cX5_cut 2 = .ok (.putfield 77, 3) := dk_get _ da_cX5_cut_0 2 _ _ _ rfl
theorem dX5_cut_5 : decode cX5_cut 5 = .ok (.aload_n 0, 1) := dk_get _ da_cX5_cut_0 3 _ _ _ rfl
theorem dX5_cut_6 : decode cX5_cut 6 = .ok (.iload_n 1, 1) := dk_get _ da_cX5_cut_0 4 _ _ _ rfl
theorem dX5_cut_7 : decode cX5_cut 7 = .ok (.iload_n 2, 1) := dk_get _ da_cX5_cut_0 5 _ _ _ rfl
theorem dX5_cut_8 : decode cX5_cut 8 = .ok (.invokevirtual 142, 3) := dk_get _ da_cX5_cut_0 6 _ _ _ rfl
theorem dX5_cut_11 : decode cX5_cut 11 = .ok (.ifCond .ne 5, 3) := dk_get _ da_cX5_cut_0 7 _ _ _ rfl
theorem dX5_cut_14 : decode cX5_cut 14 = .ok (.iconst (-1), 1) := dk_get _ da_cX5_cut_0 8 _ _ _ rfl
theorem dX5_cut_15 : decode cX5_cut 15 = .ok (.ireturn, 1) := dk_get _ da_cX5_cut_0 9 _ _ _ rfl
theorem dX5_cut_16 : decode cX5_cut 16 = .ok (.iload_n 1, 1) := dk_get _ da_cX5_cut_0 10 _ _ _ rfl
theorem dX5_cut_17 : decode cX5_cut 17 = .ok (.iconst 1, 1) := dk_get _ da_cX5_cut_0 11 _ _ _ rfl
theorem dX5_cut_18 : decode cX5_cut 18 = .ok (.iadd, 1) := dk_get _ da_cX5_cut_0 12 _ _ _ rfl
theorem dX5_cut_19 : decode cX5_cut 19 = .ok (.istore_n 3, 1) := dk_get _ da_cX5_cut_0 13 _ _ _ rfl
theorem dX5_cut_20 : decode cX5_cut 20 = .ok (.iload_n 3, 1) := dk_get _ da_cX5_cut_0 14 _ _ _ rfl
theorem dX5_cut_21 : decode cX5_cut 21 = .ok (.iload_n 2, 1) := dk_get _ da_cX5_cut_0 15 _ _ _ rfl
theorem dX5_cut_22 : decode cX5_cut 22 = .ok (.if_icmp .ge 48, 3) := dk_get _ da_cX5_cut_0 16 _ _ _ rfl
theorem dX5_cut_25 : decode cX5_cut 25 = .ok (.aload_n 0, 1) := dk_get _ da_cX5_cut_0 17 _ _ _ rfl
theorem dX5_cut_26 : decode cX5_cut 26 = .ok (.iload_n 1, 1) := dk_get _ da_cX5_cut_0 18 _ _ _ rfl
theorem dX5_cut_27 : decode cX5_cut 27 = .ok (.iload_n 3, 1) := dk_get _ da_cX5_cut_0 19 _ _ _ rfl
theorem dX5_cut_28 : decode cX5_cut 28 = .ok (.invokevirtual 194, 3) := dk_get _ da_cX5_cut_0 20 _ _ _ rfl
theorem dX5_cut_31 : decode cX5_cut 31 = .ok (.istore 4, 2) := dk_get _ da_cX5_cut_0 21 _ _ _ rfl
theorem dX5_cut_33 : decode cX5_cut 33 = .ok (.aload_n 0, 1) := dk_get _ da_cX5_cut_0 22 _ _ _ rfl
theorem dX5_cut_34 : decode cX5_cut 34 = .ok (.iload_n 3, 1) := dk_get _ da_cX5_cut_0 23 _ _ _ rfl
theorem dX5_cut_35 : decode cX5_cut 35 = .ok (.iload_n 2, 1) := dk_get _ da_cX5_cut_0 24 _ _ _ rfl
theorem dX5_cut_36 : decode cX5_cut 36 = .ok (.invokevirtual 194, 3) := dk_get _ da_cX5_cut_0 25 _ _ _ rfl
theorem dX5_cut_39 : decode cX5_cut 39 = .ok (.istore 5, 2) := dk_get _ da_cX5_cut_0 26 _ _ _ rfl
theorem dX5_cut_41 : decode cX5_cut 41 = .ok (.iload 4, 2) := dk_get _ da_cX5_cut_0 27 _ _ _ rfl
theorem dX5_cut_43 : decode cX5_cut 43 = .ok (.ldc 148, 2) := dk_get _ da_cX5_cut_0 28 _ _ _ rfl
theorem dX5_cut_45 : decode cX5_cut 45 = .ok (.if_icmp .eq 19, 3) := dk_get _ da_cX5_cut_0 29 _ _ _ rfl
theorem dX5_cut_48 : decode cX5_cut 48 = .ok (.iload 5, 2) := dk_get _ da_cX5_cut_0 30 _ _ _ rfl
theorem dX5_cut_50 : decode cX5_cut 50 = .ok (.ldc 148, 2) := dk_get _ da_cX5_cut_0 31 _ _ _ rfl
theorem dX5_cut_52 : decode cX5_cut 52 = .ok (.if_icmp .eq 12, 3) := dk_get _ da_cX5_cut_0 32 _ _ _ rfl
theorem dX5_cut_55 : decode cX5_cut 55 = .ok (.iload 4, 2) := dk_get _ da_cX5_cut_0 33 _ _ _ rfl
theorem dX5_cut_57 : decode cX5_cut 57 = .ok (.iload 5, 2) := dk_get _ da_cX5_cut_0 34 _ _ _ rfl
theorem dX5_cut_59 : decode cX5_cut 59 = .ok (.if_icmp .eq 5, 3) := dk_get _ da_cX5_cut_0 35 _ _ _ rfl
theorem dX5_cut_62 : decode cX5_cut 62 = .ok (.iload_n 3, 1) := dk_get _ da_cX5_cut_0 36 _ _ _ rfl
theorem dX5_cut_63 : decode cX5_cut 63 = .ok (.ireturn, 1) := dk_get _ da_cX5_cut_0 37 _ _ _ rfl
theorem dX5_cut_64 : decode cX5_cut 64 = .ok (.iinc 3 1, 3) := dk_get _ da_cX5_cut_0 38 _ _ _ rfl
theorem dX5_cut_67 : decode cX5_cut 67 = .ok (.goto (-47), 3) := dk_get _ da_cX5_cut_0 39 _ _ _ rfl
theorem dX5_cut_70 : decode cX5_cut 70 = .ok (.iconst (-1), 1) := dk_get _ da_cX5_cut_0 40 _ _ _ rfl
theorem dX5_cut_71 : decode cX5_cut 71 = .ok (.ireturn, 1) := dk_get _ da_cX5_cut_0 41 _ _ _ rfl
theorem mi_wsX5_would_wsX5_would_r1 : ∀ w ∈ wsX5_would_r1, w ∈ wsX5_would := fun _ h => (List.mem_cons_of_mem _ (List.mem_append_left _ (List.mem_append_left _ h)))
theorem mi_wsX5_would_wsX50 : ∀ w ∈ wsX50, w ∈ wsX5_would := fun _ h => (List.mem_cons_of_mem _ (List.mem_append_right _ h))
set_option maxRecDepth 20000 in
theorem ggX5_would_X5_isPlace : GoodIn wsX5_would wsX5_isPlace := goodIn_k _ [(wsX5_would_r1, [7, 8, 9, 10, 6, 11]), (wsX50, [0, 1, 2, 3, 4, 5, 6, 7, 8, 9, 10, 11, 12, 13, 14, 15, 16, 17, 18, 19, 20, 21, 22, 23, 24, 25, 26, 27, 28, 29])] (gk_c mi_wsX5_would_wsX5_would_r1 (gk_c mi_wsX5_would_wsX50 gk_n)) rfl (by decide +kernel)
set_option maxRecDepth 20000 in
theorem gX5_would_X5_isPlace : GoodIn wsX5_would (wsV RX5 128 RX5 yX5_isPlace wsX5_isPlace) := goodIn_app (goodIn_k _ [(wsX5_would_r1, [3, 4, 5, 6])] (gk_c mi_wsX5_would_wsX5_would_r1 gk_n) rfl (by decide +kernel)) ggX5_would_X5_isPlace
set_option maxRecDepth 20000 in
theorem ggX5_would_X5_isValue : GoodIn wsX5_would wsX5_isValue := goodIn_k _ [(wsX5_would_r1, [14, 9, 10, 6, 11])] (gk_c mi_wsX5_would_wsX5_would_r1 gk_n) rfl (by decide +kernel)
set_option maxRecDepth 20000 in
theorem gX5_would_X5_isValue : GoodIn wsX5_would (va_wsS RX5 132 yX5_isValue wsX5_isValue) := goodIn_app (goodIn_k _ [(wsX5_would_r1, [12, 13, 6])] (gk_c mi_wsX5_would_wsX5_would_r1 gk_n) rfl (by decide +kernel)) ggX5_would_X5_isValue
set_option maxRecDepth 20000 in
theorem ggX5_would_X5_isRange : GoodIn wsX5_would wsX5_isRange := goodIn_k _ [(wsX5_would_r1, [18, 8]), (wsX50, [0, 1, 2, 3, 4, 5, 6, 7, 8, 9, 10, 11, 12, 13, 14, 15, 16, 17, 18, 19, 20, 21, 22, 23, 24, 25, 26, 27, 28, 29])] (gk_c mi_wsX5_would_wsX5_would_r1 (gk_c mi_wsX5_would_wsX50 gk_n)) rfl (by decide +kernel)
set_option maxRecDepth 20000 in
theorem gX5_would_X5_isRange : GoodIn wsX5_would (wsV RX5 142 RX5 yX5_isRange wsX5_isRange) := goodIn_app (goodIn_k _ [(wsX5_would_r1, [15, 16, 17, 6])] (gk_c mi_wsX5_would_wsX5_would_r1 gk_n) rfl (by decide +kernel)) ggX5_would_X5_isRange
theorem mi_wsX5_would_wsX5_would_r2 : ∀ w ∈ wsX5_would_r2, w ∈ wsX5_would := fun _ h => (List.mem_cons_of_mem _ (List.mem_append_left _ (List.mem_append_right _ h)))
set_option maxRecDepth 20000 in
theorem ggX5_would_X5_majorityOf : GoodIn wsX5_would wsX5_majorityOf := goodIn_k _ [(wsX5_would_r1, [22, 2, 1, 23]), (wsX5_would_r2, [0, 1]), (wsX5_would_r1, [6]), (wsX5_would_r2, [2]), (wsX50, [0, 1, 2, 3, 4, 5, 6, 7, 8, 9, 10, 11, 12, 13, 14, 15, 16, 17, 18, 19, 20, 21, 22, 23, 24, 25, 26, 27, 28, 29])] (gk_c mi_wsX5_would_wsX5_would_r1 (gk_c mi_wsX5_would_wsX5_would_r2 (gk_c mi_wsX5_would_wsX5_would_r1 (gk_c mi_wsX5_would_wsX5_would_r2 (gk_c mi_wsX5_would_wsX50 gk_n))))) rfl (by decide +kernel)
set_option maxRecDepth 20000 in
theorem gX5_would_X5_majorityOf : GoodIn wsX5_would (wsV RX5 194 RX5 yX5_majorityOf wsX5_majorityOf) := goodIn_app (goodIn_k _ [(wsX5_would_r1, [19, 20, 21, 6])] (gk_c mi_wsX5_would_wsX5_would_r1 gk_n) rfl (by decide +kernel)) ggX5_would_X5_majorityOf
def dt_cX5_would_0 : List (Nat × Instr × Nat) := [(0, .aload_n 0, 1), (1, .iconst 0, 1), (2, .putfield 77, 3), (5, .aload_n 0, 1), (6, .iload_n 1, 1), (7, .invokevirtual 128, 3), (10, .ifCond .eq 20, 3), (13, .iload_n 2, 1), (14, .invokestatic 132, 3), (17, .ifCond .eq 13, 3), (20, .aload_n 0, 1), (21, .iload_n 3, 1), (22, .iload 4, 2), (24, .invokevirtual 142, 3), (27, .ifCond .ne 6, 3), (30, .ldc 148, 2), (32, .ireturn, 1), (33, .aload_n 0, 1), (34, .getfield 7, 3), (37, .iload_n 1, 1), (38, .iaload, 1), (39, .istore 5, 2), (41, .aload_n 0, 1), (42, .getfield 7, 3), (45, .iload_n 1, 1), (46, .iload_n 2, 1), (47, .iastore, 1), (48, .aload_n 0, 1), (49, .iload_n 3, 1), (50, .iload 4, 2), (52, .invokevirtual 194, 3), (55, .istore 6, 2), (57, .aload_n 0, 1), (58, .getfield 7, 3), (61, .iload_n 1, 1), (62, .iload 5, 2), (64, .iastore, 1), (65, .iload 6, 2), (67, .ireturn, 1)]
theorem da_cX5_would_0 : dk_all cX5_would dt_cX5_would_0 = true := by decide +kernel
theorem dX5_would_0 : decode cX5_would 0 = .ok (.aload_n 0, 1) := dk_get _ da_cX5_would_0 0 _ _ _ rfl
theorem dX5_would_1 : decode cX5_would 1 = .ok (.iconst 0, 1) := dk_get _ da_cX5_would_0 1 _ _ _ rfl
theorem dX5_would_2 : decode cX5_would 2 = .ok (.putfield 77, 3) := dk_get _ da_cX5_would_0 2 _ _ _ rfl
theorem dX5_would_5 : decode cX5_would 5 = .ok (.aload_n 0, 1) := dk_get _ da_cX5_would_0 3 _ _ _ rfl
theorem dX5_would_6 : decode cX5_would 6 = .ok (.iload_n 1, 1) := dk_get _ da_cX5_would_0 4 _ _ _ rfl
theorem dX5_would_7 : decode cX5_would 7 = .ok (.invokevirtual 128, 3) := dk_get _ da_cX5_would_0 5 _ _ _ rfl
theorem dX5_would_10 : decode cX5_would 10 = .ok (.ifCond .eq 20, 3) := dk_get _ da_cX5_would_0 6 _ _ _ rfl
theorem dX5_would_13 : decode cX5_would 13 = .ok (.iload_n 2, 1) := dk_get _ da_cX5_would_0 7 _ _ _ rfl
theorem dX5_would_14 : decode cX5_would 14 = .ok (.invokestatic 132, 3) := dk_get _ da_cX5_would_0 8 _ _ _ rfl
theorem dX5_would_17 : decode cX5_would 17 = .ok (.ifCond .eq 13, 3) := dk_get _ da_cX5_would_0 9 _ _ _ rfl
theorem dX5_would_20 : decode cX5_would 20 = .ok (.aload_n 0, 1) := dk_get _ da_cX5_would_0 10 _ _ _ rfl
theorem dX5_would_21 : decode cX5_would 21 = .ok (.iload_n 3, 1) := dk_get _ da_cX5_would_0 11 _ _ _ rfl
theorem dX5_would_22 : decode cX5_would 22 = .ok (.iload 4, 2) := dk_get _ da_cX5_would_0 12 _ _ _ rfl
theorem dX5_would_24 : decode cX5_would 24 = .ok (.invokevirtual 142, 3) := dk_get _ da_cX5_would_0 13 _ _ _ rfl
theorem dX5_would_27 : decode cX5_would 27 = .ok (.ifCond .ne 6, 3) := dk_get _ da_cX5_would_0 14 _ _ _ rfl
theorem dX5_would_30 : decode cX5_would 30 = .ok (.ldc 148, 2) := dk_get _ da_cX5_would_0 15 _ _ _ rfl
theorem dX5_would_32 : decode cX5_would 32 = .ok (.ireturn, 1) := dk_get _ da_cX5_would_0 16 _ _ _ rfl
theorem dX5_would_33 : decode cX5_would 33 = .ok (.aload_n 0, 1) := dk_get _ da_cX5_would_0 17 _ _ _ rfl
theorem dX5_would_34 : decode cX5_would 34 = .ok (.getfield 7, 3) := dk_get _ da_cX5_would_0 18 _ _ _ rfl
theorem dX5_would_37 : decode cX5_would 37 = .ok (.iload_n 1, 1) := dk_get _ da_cX5_would_0 19 _ _ _ rfl
theorem dX5_would_38 : decode cX5_would 38 = .ok (.iaload, 1) := dk_get _ da_cX5_would_0 20 _ _ _ rfl
theorem dX5_would_39 : decode cX5_would 39 = .ok (.istore 5, 2) := dk_get _ da_cX5_would_0 21 _ _ _ rfl
theorem dX5_would_41 : decode cX5_would 41 = .ok (.aload_n 0, 1) := dk_get _ da_cX5_would_0 22 _ _ _ rfl
theorem dX5_would_42 : decode cX5_would 42 = .ok (.getfield 7, 3) := dk_get _ da_cX5_would_0 23 _ _ _ rfl
theorem dX5_would_45 : decode cX5_would 45 = .ok (.iload_n 1, 1) := dk_get _ da_cX5_would_0 24 _ _ _ rfl
theorem dX5_would_46 : decode cX5_would 46 = .ok (.iload_n 2, 1) := dk_get _ da_cX5_would_0 25 _ _ _ rfl
theorem dX5_would_47 : decode cX5_would 47 = .ok (.iastore, 1) := dk_get _ da_cX5_would_0 26 _ _ _ rfl
theorem dX5_would_48 : decode cX5_would 48 = .ok (.aload_n 0, 1) := dk_get _ da_cX5_would_0 27 _ _ _ rfl
theorem dX5_would_49 : decode cX5_would 49 = .ok (.iload_n 3, 1) := dk_get _ da_cX5_would_0 28 _ _ _ rfl
theorem dX5_would_50 : decode cX5_would 50 = .ok (.iload 4, 2) := dk_get _ da_cX5_would_0 29 _ _ _ rfl
theorem dX5_would_52 : decode cX5_would 52 = .ok (.invokevirtual 194, 3) := dk_get _ da_cX5_would_0 30 _ _ _ rfl
theorem dX5_would_55 : decode cX5_would 55 = .ok (.istore 6, 2) := dk_get _ da_cX5_would_0 31 _ _ _ rfl
theorem dX5_would_57 : decode cX5_would 57 = .ok (.aload_n 0, 1) := dk_get _ da_cX5_would_0 32 _ _ _ rfl
theorem dX5_would_58 : decode cX5_would 58 = .ok (.getfield 7, 3) := dk_get _ da_cX5_would_0 33 _ _ _ rfl
theorem dX5_would_61 : decode cX5_would 61 = .ok (.iload_n 1, 1) := dk_get _ da_cX5_would_0 34 _ _ _ rfl
theorem dX5_would_62 : decode cX5_would 62 = .ok (.iload 5, 2) := dk_get _ da_cX5_would_0 35 _ _ _ rfl
theorem dX5_would_64 : decode cX5_would 64 = .ok (.iastore, 1) := dk_get _ da_cX5_would_0 36 _ _ _ rfl
theorem dX5_would_65 : decode cX5_would 65 = .ok (.iload 6, 2) := dk_get _ da_cX5_would_0 37 _ _ _ rfl
theorem dX5_would_67 : decode cX5_would 67 = .ok (.ireturn, 1) := dk_get _ da_cX5_would_0 38 _ _ _ rfl

