abbrev cX4_count : ByteArray := prog_1_method_12_code
def yX4_count : MethodName := ⟨RX4, "count", "(III)I"⟩
abbrev cX4_place : ByteArray := prog_1_method_13_code
def yX4_place : MethodName := ⟨RX4, "place", "(II)I"⟩
abbrev cX4_values : ByteArray := prog_1_method_14_code
def yX4_values : MethodName := ⟨RX4, "values", "()I"⟩
abbrev cX4_majority : ByteArray := prog_1_method_31_code
def yX4_majority : MethodName := ⟨RX4, "majority", "(II)I"⟩
abbrev cX4_margin : ByteArray := prog_1_method_32_code
def yX4_margin : MethodName := ⟨RX4, "margin", "(III)I"⟩
abbrev cX4_longest : ByteArray := prog_1_method_35_code
def yX4_longest : MethodName := ⟨RX4, "longest", "(IIII)I"⟩
abbrev cX4_reach : ByteArray := prog_1_method_36_code
def yX4_reach : MethodName := ⟨RX4, "reach", "(I)I"⟩
abbrev cX4_parted : ByteArray := prog_1_method_37_code
def yX4_parted : MethodName := ⟨RX4, "parted", "(II)I"⟩
abbrev cX4_cut : ByteArray := prog_1_method_38_code
def yX4_cut : MethodName := ⟨RX4, "cut", "(II)I"⟩
abbrev cX4_majorities : ByteArray := prog_1_method_39_code
def yX4_majorities : MethodName := ⟨RX4, "majorities", "()I"⟩
abbrev cX4_windows : ByteArray := prog_1_method_40_code
def yX4_windows : MethodName := ⟨RX4, "windows", "(IIII)I"⟩
abbrev cX4_needs : ByteArray := prog_1_method_41_code
def yX4_needs : MethodName := ⟨RX4, "needs", "(IIIII)I"⟩
abbrev cX4_spares : ByteArray := prog_1_method_42_code
def yX4_spares : MethodName := ⟨RX4, "spares", "(IIIII)I"⟩
abbrev cX4_would : ByteArray := prog_1_method_43_code
def yX4_would : MethodName := ⟨RX4, "would", "(IIII)I"⟩
abbrev cX4_mostWithoutHeavy : ByteArray := prog_1_method_50_code
def yX4_mostWithoutHeavy : MethodName := ⟨RX4, "mostWithoutHeavy", "(III)I"⟩
abbrev cX4_farthestHeavy : ByteArray := prog_1_method_58_code
def yX4_farthestHeavy : MethodName := ⟨RX4, "farthestHeavy", "(IIII)I"⟩
abbrev cX4_slideWindow : ByteArray := prog_1_method_59_code
def yX4_slideWindow : MethodName := ⟨RX4, "slideWindow", "(III)I"⟩
abbrev cX4_creditHeavy : ByteArray := prog_1_method_60_code
def yX4_creditHeavy : MethodName := ⟨RX4, "creditHeavy", "(III)Z"⟩
abbrev cX4_kindOfMostWins : ByteArray := prog_1_method_61_code
def yX4_kindOfMostWins : MethodName := ⟨RX4, "kindOfMostWins", "()I"⟩
def wsX4_count : List Cond := .code yX4_count cX4_count 4 (some .int) :: ([.fieldLink RX4 12 "MajorityIndex" "row" "LMajorityIndex$Row;", .methodLink RX4 68 yX4_isValue, .static yX4_isValue, .initialized RX4, .code yX4_isValue cX4_isValue 1 (some .boolean), .methodLink RX4 79 yX0_hasRange, .instanceMethod yX0_hasRange, .selects RX0 yX0_hasRange yX0_hasRange, .initialized RX0, .code yX0_hasRange cX0_hasRange 3 (some .boolean), .fieldLink RX0 15 "MajorityIndex$Row" "length" "I", .methodLink RX4 113 yX0_oftenIn, .instanceMethod yX0_oftenIn, .selects RX0 yX0_oftenIn yX0_oftenIn, .code yX0_oftenIn cX0_oftenIn 6 (some .int), .fieldLink RX0 9 "MajorityIndex$Row" "cell" "[I"] ++ wsX40 ++ wsX00)
def wsX4_place : List Cond := .code yX4_place cX4_place 5 (some .int) :: ([.fieldLink RX4 12 "MajorityIndex" "row" "LMajorityIndex$Row;", .fieldLink RX4 57 "MajorityIndex$Row" "length" "I", .fieldLink RX4 110 "MajorityIndex$Row" "cell" "[I"] ++ wsX40 ++ wsX00)
def wsX4_values : List Cond := .code yX4_values cX4_values 3 (some .int) :: ([.fieldLink RX4 28 "MajorityIndex" "tally" "LMajorityIndex$Tally;", .fieldLink RX4 12 "MajorityIndex" "row" "LMajorityIndex$Row;", .fieldLink RX4 57 "MajorityIndex$Row" "length" "I", .fieldLink RX4 120 "MajorityIndex$Tally" "kind" "[I", .methodLink RX4 117 yX1_learn, .instanceMethod yX1_learn, .selects RX1 yX1_learn yX1_learn, .initialized RX1, .code yX1_learn cX1_learn 3 none, .fieldLink RX1 18 "MajorityIndex$Row" "length" "I", .fieldLink RX1 9 "MajorityIndex$Tally" "kind" "[I", .methodLink RX1 24 yX0_firstLike, .instanceMethod yX0_firstLike, .selects RX0 yX0_firstLike yX0_firstLike, .initialized RX0, .code yX0_firstLike cX0_firstLike 3 (some .int), .fieldLink RX0 9 "MajorityIndex$Row" "cell" "[I"] ++ wsX40 ++ wsX00 ++ wsX10)
def wsX4_majority : List Cond := .code yX4_majority cX4_majority 3 (some .int) :: ([.fieldLink RX4 12 "MajorityIndex" "row" "LMajorityIndex$Row;", .constant RX4 102 (-40000), .methodLink RX4 79 yX0_hasRange, .instanceMethod yX0_hasRange, .selects RX0 yX0_hasRange yX0_hasRange, .initialized RX0, .code yX0_hasRange cX0_hasRange 3 (some .boolean), .fieldLink RX0 15 "MajorityIndex$Row" "length" "I", .methodLink RX4 207 yX0_leader, .instanceMethod yX0_leader, .selects RX0 yX0_leader yX0_leader, .code yX0_leader cX0_leader 6 (some .int), .constant RX0 23 (-40000), .fieldLink RX0 9 "MajorityIndex$Row" "cell" "[I", .methodLink RX0 24 yX0_oftenIn, .instanceMethod yX0_oftenIn, .selects RX0 yX0_oftenIn yX0_oftenIn, .code yX0_oftenIn cX0_oftenIn 6 (some .int), .static yX4_isHeavy, .initialized RX4, .code yX4_isHeavy cX4_isHeavy 4 (some .boolean)] ++ wsX40 ++ wsX00)
def wsX4_margin : List Cond := .code yX4_margin cX4_margin 4 (some .int) :: ([.fieldLink RX4 12 "MajorityIndex" "row" "LMajorityIndex$Row;", .constant RX4 102 (-40000), .methodLink RX4 68 yX4_isValue, .static yX4_isValue, .initialized RX4, .code yX4_isValue cX4_isValue 1 (some .boolean), .methodLink RX4 79 yX0_hasRange, .instanceMethod yX0_hasRange, .selects RX0 yX0_hasRange yX0_hasRange, .initialized RX0, .code yX0_hasRange cX0_hasRange 3 (some .boolean), .fieldLink RX0 15 "MajorityIndex$Row" "length" "I", .methodLink RX4 113 yX0_oftenIn, .instanceMethod yX0_oftenIn, .selects RX0 yX0_oftenIn yX0_oftenIn, .code yX0_oftenIn cX0_oftenIn 6 (some .int), .fieldLink RX0 9 "MajorityIndex$Row" "cell" "[I"] ++ wsX40 ++ wsX00)
def wsX4_farthestHeavy : List Cond := .code yX4_farthestHeavy cX4_farthestHeavy 8 (some .int) :: ([.fieldLink RX4 12 "MajorityIndex" "row" "LMajorityIndex$Row;", .fieldLink RX4 57 "MajorityIndex$Row" "length" "I", .fieldLink RX4 110 "MajorityIndex$Row" "cell" "[I", .methodLink RX4 273 yX4_isHeavy, .static yX4_isHeavy, .initialized RX4, .code yX4_isHeavy cX4_isHeavy 4 (some .boolean)] ++ wsX40 ++ wsX00)
def wsX4_longest : List Cond := .code yX4_longest cX4_longest 9 (some .int) :: ([.fieldLink RX4 12 "MajorityIndex" "row" "LMajorityIndex$Row;", .fieldLink RX4 57 "MajorityIndex$Row" "length" "I", .methodLink RX4 68 yX4_isValue, .static yX4_isValue, .initialized RX4, .code yX4_isValue cX4_isValue 1 (some .boolean), .methodLink RX4 186 yX4_isShare, .static yX4_isShare, .code yX4_isShare cX4_isShare 2 (some .boolean), .methodLink RX4 218 yX4_farthestHeavy, .instanceMethod yX4_farthestHeavy, .selects RX4 yX4_farthestHeavy yX4_farthestHeavy, .code yX4_farthestHeavy cX4_farthestHeavy 8 (some .int), .fieldLink RX4 110 "MajorityIndex$Row" "cell" "[I", .methodLink RX4 273 yX4_isHeavy, .static yX4_isHeavy, .code yX4_isHeavy cX4_isHeavy 4 (some .boolean)] ++ wsX40 ++ wsX00)
def wsX4_reach_r1 : List Cond := [Cond.fieldLink RX4 12 "MajorityIndex" "row" "LMajorityIndex$Row;", Cond.fieldLink RX4 28 "MajorityIndex" "tally" "LMajorityIndex$Tally;", Cond.fieldLink RX4 57 "MajorityIndex$Row" "length" "I", Cond.methodLink RX4 64 yX0_hasPlace, Cond.instanceMethod yX0_hasPlace, Cond.selects RX0 yX0_hasPlace yX0_hasPlace, Cond.initialized RX0, Cond.code yX0_hasPlace cX0_hasPlace 2 (some .boolean), Cond.fieldLink RX0 15 "MajorityIndex$Row" "length" "I", Cond.methodLink RX4 117 yX1_learn, Cond.instanceMethod yX1_learn, Cond.selects RX1 yX1_learn yX1_learn, Cond.initialized RX1, Cond.code yX1_learn cX1_learn 3 none, Cond.fieldLink RX1 18 "MajorityIndex$Row" "length" "I", Cond.fieldLink RX1 9 "MajorityIndex$Tally" "kind" "[I", Cond.methodLink RX1 24 yX0_firstLike, Cond.instanceMethod yX0_firstLike, Cond.selects RX0 yX0_firstLike yX0_firstLike, Cond.code yX0_firstLike cX0_firstLike 3 (some .int), Cond.fieldLink RX0 9 "MajorityIndex$Row" "cell" "[I", Cond.methodLink RX4 221 yX1_clear, Cond.instanceMethod yX1_clear, Cond.selects RX1 yX1_clear yX1_clear]
def wsX4_reach_r2 : List Cond := [Cond.code yX1_clear cX1_clear 1 none, Cond.fieldLink RX1 15 "MajorityIndex$Tally" "often" "[I", Cond.fieldLink RX1 34 "MajorityIndex$Tally" "taken" "I", Cond.fieldLink RX1 37 "MajorityIndex$Tally" "most" "I", Cond.methodLink RX1 28 yJ7_fill_53178, Cond.static yJ7_fill_53178, Cond.initialized RJ7, Cond.code yJ7_fill_53178 cJ7_fill_53178 4 none, Cond.methodLink RX4 224 yX1_take, Cond.instanceMethod yX1_take, Cond.selects RX1 yX1_take yX1_take, Cond.code yX1_take cX1_take 3 none, Cond.methodLink RX4 227 yX1_hasMajority, Cond.instanceMethod yX1_hasMajority, Cond.selects RX1 yX1_hasMajority yX1_hasMajority, Cond.code yX1_hasMajority cX1_hasMajority 1 (some .boolean)]
def wsX4_reach : List Cond := .code yX4_reach cX4_reach 4 (some .int) :: ((wsX4_reach_r1 ++ wsX4_reach_r2) ++ wsX40 ++ wsX00 ++ wsX10)
def wsX4_parted_r1 : List Cond := [Cond.fieldLink RX4 12 "MajorityIndex" "row" "LMajorityIndex$Row;", Cond.fieldLink RX4 28 "MajorityIndex" "tally" "LMajorityIndex$Tally;", Cond.fieldLink RX4 46 "MajorityIndex" "fewest" "[I", Cond.methodLink RX4 91 Lib.Math.min.name, Cond.static Lib.Math.min.name, Cond.initialized "java/lang/Math", Cond.code Lib.Math.min.name Lib.Math.min.code 2 (some .int), Cond.methodLink RX4 79 yX0_hasRange, Cond.instanceMethod yX0_hasRange, Cond.selects RX0 yX0_hasRange yX0_hasRange, Cond.initialized RX0, Cond.code yX0_hasRange cX0_hasRange 3 (some .boolean), Cond.fieldLink RX0 15 "MajorityIndex$Row" "length" "I", Cond.methodLink RX4 117 yX1_learn, Cond.instanceMethod yX1_learn, Cond.selects RX1 yX1_learn yX1_learn, Cond.initialized RX1, Cond.code yX1_learn cX1_learn 3 none, Cond.fieldLink RX1 18 "MajorityIndex$Row" "length" "I", Cond.fieldLink RX1 9 "MajorityIndex$Tally" "kind" "[I", Cond.methodLink RX1 24 yX0_firstLike, Cond.instanceMethod yX0_firstLike, Cond.selects RX0 yX0_firstLike yX0_firstLike, Cond.code yX0_firstLike cX0_firstLike 3 (some .int)]
def wsX4_parted_r2 : List Cond := [Cond.fieldLink RX0 9 "MajorityIndex$Row" "cell" "[I", Cond.methodLink RX4 231 yJ7_fill_53178, Cond.static yJ7_fill_53178, Cond.initialized RJ7, Cond.code yJ7_fill_53178 cJ7_fill_53178 4 none, Cond.methodLink RX4 221 yX1_clear, Cond.instanceMethod yX1_clear, Cond.selects RX1 yX1_clear yX1_clear, Cond.code yX1_clear cX1_clear 1 none, Cond.fieldLink RX1 15 "MajorityIndex$Tally" "often" "[I", Cond.fieldLink RX1 34 "MajorityIndex$Tally" "taken" "I", Cond.fieldLink RX1 37 "MajorityIndex$Tally" "most" "I", Cond.methodLink RX1 28 yJ7_fill_53178, Cond.methodLink RX4 224 yX1_take, Cond.instanceMethod yX1_take, Cond.selects RX1 yX1_take yX1_take, Cond.code yX1_take cX1_take 3 none, Cond.methodLink RX4 227 yX1_hasMajority, Cond.instanceMethod yX1_hasMajority, Cond.selects RX1 yX1_hasMajority yX1_hasMajority, Cond.code yX1_hasMajority cX1_hasMajority 1 (some .boolean)]
def wsX4_parted : List Cond := .code yX4_parted cX4_parted 5 (some .int) :: ((wsX4_parted_r1 ++ wsX4_parted_r2) ++ wsX40 ++ wsX00 ++ wsX10)
def wsX4_cut : List Cond := .code yX4_cut cX4_cut 6 (some .int) :: ([.fieldLink RX4 12 "MajorityIndex" "row" "LMajorityIndex$Row;", .constant RX4 102 (-40000), .methodLink RX4 79 yX0_hasRange, .instanceMethod yX0_hasRange, .selects RX0 yX0_hasRange yX0_hasRange, .initialized RX0, .code yX0_hasRange cX0_hasRange 3 (some .boolean), .fieldLink RX0 15 "MajorityIndex$Row" "length" "I", .methodLink RX4 207 yX0_leader, .instanceMethod yX0_leader, .selects RX0 yX0_leader yX0_leader, .code yX0_leader cX0_leader 6 (some .int), .constant RX0 23 (-40000), .fieldLink RX0 9 "MajorityIndex$Row" "cell" "[I", .methodLink RX0 24 yX0_oftenIn, .instanceMethod yX0_oftenIn, .selects RX0 yX0_oftenIn yX0_oftenIn, .code yX0_oftenIn cX0_oftenIn 6 (some .int), .static yX4_isHeavy, .initialized RX4, .code yX4_isHeavy cX4_isHeavy 4 (some .boolean)] ++ wsX40 ++ wsX00)
def wsX4_majorities_r1 : List Cond := [Cond.fieldLink RX4 28 "MajorityIndex" "tally" "LMajorityIndex$Tally;", Cond.fieldLink RX4 12 "MajorityIndex" "row" "LMajorityIndex$Row;", Cond.fieldLink RX4 57 "MajorityIndex$Row" "length" "I", Cond.methodLink RX4 117 yX1_learn, Cond.instanceMethod yX1_learn, Cond.selects RX1 yX1_learn yX1_learn, Cond.initialized RX1, Cond.code yX1_learn cX1_learn 3 none, Cond.fieldLink RX1 18 "MajorityIndex$Row" "length" "I", Cond.fieldLink RX1 9 "MajorityIndex$Tally" "kind" "[I", Cond.methodLink RX1 24 yX0_firstLike, Cond.instanceMethod yX0_firstLike, Cond.selects RX0 yX0_firstLike yX0_firstLike, Cond.initialized RX0, Cond.code yX0_firstLike cX0_firstLike 3 (some .int), Cond.fieldLink RX0 9 "MajorityIndex$Row" "cell" "[I", Cond.methodLink RX4 221 yX1_clear, Cond.instanceMethod yX1_clear, Cond.selects RX1 yX1_clear yX1_clear, Cond.code yX1_clear cX1_clear 1 none, Cond.fieldLink RX1 15 "MajorityIndex$Tally" "often" "[I", Cond.fieldLink RX1 34 "MajorityIndex$Tally" "taken" "I", Cond.fieldLink RX1 37 "MajorityIndex$Tally" "most" "I", Cond.methodLink RX1 28 yJ7_fill_53178]
def wsX4_majorities_r2 : List Cond := [Cond.static yJ7_fill_53178, Cond.initialized RJ7, Cond.code yJ7_fill_53178 cJ7_fill_53178 4 none, Cond.methodLink RX4 224 yX1_take, Cond.instanceMethod yX1_take, Cond.selects RX1 yX1_take yX1_take, Cond.code yX1_take cX1_take 3 none, Cond.methodLink RX4 227 yX1_hasMajority, Cond.instanceMethod yX1_hasMajority, Cond.selects RX1 yX1_hasMajority yX1_hasMajority, Cond.code yX1_hasMajority cX1_hasMajority 1 (some .boolean)]
def wsX4_majorities : List Cond := .code yX4_majorities cX4_majorities 4 (some .int) :: ((wsX4_majorities_r1 ++ wsX4_majorities_r2) ++ wsX40 ++ wsX00 ++ wsX10)
def wsX4_creditHeavy : List Cond := .code yX4_creditHeavy cX4_creditHeavy 6 (some .boolean) :: ([.fieldLink RX4 12 "MajorityIndex" "row" "LMajorityIndex$Row;", .fieldLink RX4 57 "MajorityIndex$Row" "length" "I", .fieldLink RX4 28 "MajorityIndex" "tally" "LMajorityIndex$Tally;", .fieldLink RX4 283 "MajorityIndex$Tally" "often" "[I", .fieldLink RX4 42 "MajorityIndex" "wins" "[I", .methodLink RX4 273 yX4_isHeavy, .static yX4_isHeavy, .initialized RX4, .code yX4_isHeavy cX4_isHeavy 4 (some .boolean)] ++ wsX40 ++ wsX00 ++ wsX10)
def wsX4_slideWindow_r1 : List Cond := [Cond.fieldLink RX4 28 "MajorityIndex" "tally" "LMajorityIndex$Tally;", Cond.fieldLink RX4 12 "MajorityIndex" "row" "LMajorityIndex$Row;", Cond.fieldLink RX4 42 "MajorityIndex" "wins" "[I", Cond.fieldLink RX4 57 "MajorityIndex$Row" "length" "I", Cond.methodLink RX4 117 yX1_learn, Cond.instanceMethod yX1_learn, Cond.selects RX1 yX1_learn yX1_learn, Cond.initialized RX1, Cond.code yX1_learn cX1_learn 3 none, Cond.fieldLink RX1 18 "MajorityIndex$Row" "length" "I", Cond.fieldLink RX1 9 "MajorityIndex$Tally" "kind" "[I", Cond.methodLink RX1 24 yX0_firstLike, Cond.instanceMethod yX0_firstLike, Cond.selects RX0 yX0_firstLike yX0_firstLike, Cond.initialized RX0, Cond.code yX0_firstLike cX0_firstLike 3 (some .int), Cond.fieldLink RX0 9 "MajorityIndex$Row" "cell" "[I", Cond.methodLink RX4 221 yX1_clear, Cond.instanceMethod yX1_clear, Cond.selects RX1 yX1_clear yX1_clear, Cond.code yX1_clear cX1_clear 1 none, Cond.fieldLink RX1 15 "MajorityIndex$Tally" "often" "[I", Cond.fieldLink RX1 34 "MajorityIndex$Tally" "taken" "I", Cond.fieldLink RX1 37 "MajorityIndex$Tally" "most" "I"]
def wsX4_slideWindow_r2 : List Cond := [Cond.methodLink RX1 28 yJ7_fill_53178, Cond.static yJ7_fill_53178, Cond.initialized RJ7, Cond.code yJ7_fill_53178 cJ7_fill_53178 4 none, Cond.methodLink RX4 231 yJ7_fill_53178, Cond.methodLink RX4 224 yX1_take, Cond.instanceMethod yX1_take, Cond.selects RX1 yX1_take yX1_take, Cond.code yX1_take cX1_take 3 none, Cond.methodLink RX4 277 yX1_drop, Cond.instanceMethod yX1_drop, Cond.selects RX1 yX1_drop yX1_drop, Cond.code yX1_drop cX1_drop 2 none, Cond.methodLink RX4 280 yX4_creditHeavy, Cond.instanceMethod yX4_creditHeavy, Cond.selects RX4 yX4_creditHeavy yX4_creditHeavy, Cond.initialized RX4, Cond.code yX4_creditHeavy cX4_creditHeavy 6 (some .boolean), Cond.fieldLink RX4 283 "MajorityIndex$Tally" "often" "[I", Cond.methodLink RX4 273 yX4_isHeavy, Cond.static yX4_isHeavy, Cond.code yX4_isHeavy cX4_isHeavy 4 (some .boolean)]
def wsX4_slideWindow : List Cond := .code yX4_slideWindow cX4_slideWindow 6 (some .int) :: ((wsX4_slideWindow_r1 ++ wsX4_slideWindow_r2) ++ wsX40 ++ wsX00 ++ wsX10)
def wsX4_kindOfMostWins : List Cond := .code yX4_kindOfMostWins cX4_kindOfMostWins 5 (some .int) :: ([.fieldLink RX4 12 "MajorityIndex" "row" "LMajorityIndex$Row;", .fieldLink RX4 57 "MajorityIndex$Row" "length" "I", .fieldLink RX4 42 "MajorityIndex" "wins" "[I", .fieldLink RX4 110 "MajorityIndex$Row" "cell" "[I"] ++ wsX40 ++ wsX00)
def wsX4_windows_r1 : List Cond := [Cond.fieldLink RX4 12 "MajorityIndex" "row" "LMajorityIndex$Row;", Cond.fieldLink RX4 57 "MajorityIndex$Row" "length" "I", Cond.constant RX4 102 (-40000), Cond.fieldLink RX4 110 "MajorityIndex$Row" "cell" "[I", Cond.fieldLink RX4 42 "MajorityIndex" "wins" "[I", Cond.methodLink RX4 186 yX4_isShare, Cond.static yX4_isShare, Cond.initialized RX4, Cond.code yX4_isShare cX4_isShare 2 (some .boolean), Cond.methodLink RX4 237 yX4_slideWindow, Cond.instanceMethod yX4_slideWindow, Cond.selects RX4 yX4_slideWindow yX4_slideWindow, Cond.code yX4_slideWindow cX4_slideWindow 6 (some .int), Cond.fieldLink RX4 28 "MajorityIndex" "tally" "LMajorityIndex$Tally;", Cond.methodLink RX4 117 yX1_learn, Cond.instanceMethod yX1_learn, Cond.selects RX1 yX1_learn yX1_learn, Cond.initialized RX1, Cond.code yX1_learn cX1_learn 3 none, Cond.fieldLink RX1 18 "MajorityIndex$Row" "length" "I", Cond.fieldLink RX1 9 "MajorityIndex$Tally" "kind" "[I", Cond.methodLink RX1 24 yX0_firstLike, Cond.instanceMethod yX0_firstLike, Cond.selects RX0 yX0_firstLike yX0_firstLike]
def wsX4_windows_r2 : List Cond := [Cond.initialized RX0, Cond.code yX0_firstLike cX0_firstLike 3 (some .int), Cond.fieldLink RX0 9 "MajorityIndex$Row" "cell" "[I", Cond.methodLink RX4 221 yX1_clear, Cond.instanceMethod yX1_clear, Cond.selects RX1 yX1_clear yX1_clear, Cond.code yX1_clear cX1_clear 1 none, Cond.fieldLink RX1 15 "MajorityIndex$Tally" "often" "[I", Cond.fieldLink RX1 34 "MajorityIndex$Tally" "taken" "I", Cond.fieldLink RX1 37 "MajorityIndex$Tally" "most" "I", Cond.methodLink RX1 28 yJ7_fill_53178, Cond.static yJ7_fill_53178, Cond.initialized RJ7, Cond.code yJ7_fill_53178 cJ7_fill_53178 4 none, Cond.methodLink RX4 231 yJ7_fill_53178, Cond.methodLink RX4 224 yX1_take, Cond.instanceMethod yX1_take, Cond.selects RX1 yX1_take yX1_take, Cond.code yX1_take cX1_take 3 none, Cond.methodLink RX4 277 yX1_drop, Cond.instanceMethod yX1_drop, Cond.selects RX1 yX1_drop yX1_drop, Cond.code yX1_drop cX1_drop 2 none, Cond.methodLink RX4 280 yX4_creditHeavy]
def wsX4_windows_r3 : List Cond := [Cond.instanceMethod yX4_creditHeavy, Cond.selects RX4 yX4_creditHeavy yX4_creditHeavy, Cond.code yX4_creditHeavy cX4_creditHeavy 6 (some .boolean), Cond.fieldLink RX4 283 "MajorityIndex$Tally" "often" "[I", Cond.methodLink RX4 273 yX4_isHeavy, Cond.static yX4_isHeavy, Cond.code yX4_isHeavy cX4_isHeavy 4 (some .boolean), Cond.methodLink RX4 240 yX4_kindOfMostWins, Cond.instanceMethod yX4_kindOfMostWins, Cond.selects RX4 yX4_kindOfMostWins yX4_kindOfMostWins, Cond.code yX4_kindOfMostWins cX4_kindOfMostWins 5 (some .int)]
def wsX4_windows : List Cond := .code yX4_windows cX4_windows 7 (some .int) :: ((wsX4_windows_r1 ++ (wsX4_windows_r2 ++ wsX4_windows_r3)) ++ wsX40 ++ wsX00 ++ wsX10)
def wsX4_mostWithoutHeavy : List Cond := .code yX4_mostWithoutHeavy cX4_mostWithoutHeavy 3 (some .int) :: ([])
def wsX4_needs_r1 : List Cond := [Cond.fieldLink RX4 12 "MajorityIndex" "row" "LMajorityIndex$Row;", Cond.methodLink RX4 96 Lib.Math.max.name, Cond.static Lib.Math.max.name, Cond.initialized "java/lang/Math", Cond.code Lib.Math.max.name Lib.Math.max.code 2 (some .int), Cond.methodLink RX4 68 yX4_isValue, Cond.static yX4_isValue, Cond.initialized RX4, Cond.code yX4_isValue cX4_isValue 1 (some .boolean), Cond.methodLink RX4 79 yX0_hasRange, Cond.instanceMethod yX0_hasRange, Cond.selects RX0 yX0_hasRange yX0_hasRange, Cond.initialized RX0, Cond.code yX0_hasRange cX0_hasRange 3 (some .boolean), Cond.fieldLink RX0 15 "MajorityIndex$Row" "length" "I", Cond.methodLink RX4 186 yX4_isShare, Cond.static yX4_isShare, Cond.code yX4_isShare cX4_isShare 2 (some .boolean), Cond.methodLink RX4 243 yX4_mostWithoutHeavy, Cond.static yX4_mostWithoutHeavy, Cond.code yX4_mostWithoutHeavy cX4_mostWithoutHeavy 3 (some .int), Cond.methodLink RX4 113 yX0_oftenIn, Cond.instanceMethod yX0_oftenIn, Cond.selects RX0 yX0_oftenIn yX0_oftenIn]
def wsX4_needs_r2 : List Cond := [Cond.code yX0_oftenIn cX0_oftenIn 6 (some .int), Cond.fieldLink RX0 9 "MajorityIndex$Row" "cell" "[I"]
def wsX4_needs : List Cond := .code yX4_needs cX4_needs 7 (some .int) :: ((wsX4_needs_r1 ++ wsX4_needs_r2) ++ wsX40 ++ wsX00)
def wsX4_spares_r1 : List Cond := [Cond.fieldLink RX4 12 "MajorityIndex" "row" "LMajorityIndex$Row;", Cond.methodLink RX4 96 Lib.Math.max.name, Cond.static Lib.Math.max.name, Cond.initialized "java/lang/Math", Cond.code Lib.Math.max.name Lib.Math.max.code 2 (some .int), Cond.methodLink RX4 68 yX4_isValue, Cond.static yX4_isValue, Cond.initialized RX4, Cond.code yX4_isValue cX4_isValue 1 (some .boolean), Cond.methodLink RX4 79 yX0_hasRange, Cond.instanceMethod yX0_hasRange, Cond.selects RX0 yX0_hasRange yX0_hasRange, Cond.initialized RX0, Cond.code yX0_hasRange cX0_hasRange 3 (some .boolean), Cond.fieldLink RX0 15 "MajorityIndex$Row" "length" "I", Cond.methodLink RX4 186 yX4_isShare, Cond.static yX4_isShare, Cond.code yX4_isShare cX4_isShare 2 (some .boolean), Cond.methodLink RX4 113 yX0_oftenIn, Cond.instanceMethod yX0_oftenIn, Cond.selects RX0 yX0_oftenIn yX0_oftenIn, Cond.code yX0_oftenIn cX0_oftenIn 6 (some .int), Cond.fieldLink RX0 9 "MajorityIndex$Row" "cell" "[I", Cond.methodLink RX4 243 yX4_mostWithoutHeavy]
def wsX4_spares_r2 : List Cond := [Cond.static yX4_mostWithoutHeavy, Cond.code yX4_mostWithoutHeavy cX4_mostWithoutHeavy 3 (some .int)]
def wsX4_spares : List Cond := .code yX4_spares cX4_spares 6 (some .int) :: ((wsX4_spares_r1 ++ wsX4_spares_r2) ++ wsX40 ++ wsX00)
def wsX4_would_r1 : List Cond := [Cond.fieldLink RX4 12 "MajorityIndex" "row" "LMajorityIndex$Row;", Cond.constant RX4 102 (-40000), Cond.fieldLink RX4 110 "MajorityIndex$Row" "cell" "[I", Cond.methodLink RX4 64 yX0_hasPlace, Cond.instanceMethod yX0_hasPlace, Cond.selects RX0 yX0_hasPlace yX0_hasPlace, Cond.initialized RX0, Cond.code yX0_hasPlace cX0_hasPlace 2 (some .boolean), Cond.fieldLink RX0 15 "MajorityIndex$Row" "length" "I", Cond.methodLink RX4 68 yX4_isValue, Cond.static yX4_isValue, Cond.initialized RX4, Cond.code yX4_isValue cX4_isValue 1 (some .boolean), Cond.methodLink RX4 79 yX0_hasRange, Cond.instanceMethod yX0_hasRange, Cond.selects RX0 yX0_hasRange yX0_hasRange, Cond.code yX0_hasRange cX0_hasRange 3 (some .boolean), Cond.methodLink RX4 207 yX0_leader, Cond.instanceMethod yX0_leader, Cond.selects RX0 yX0_leader yX0_leader, Cond.code yX0_leader cX0_leader 6 (some .int), Cond.constant RX0 23 (-40000), Cond.fieldLink RX0 9 "MajorityIndex$Row" "cell" "[I", Cond.methodLink RX0 24 yX0_oftenIn]
def wsX4_would_r2 : List Cond := [Cond.instanceMethod yX0_oftenIn, Cond.selects RX0 yX0_oftenIn yX0_oftenIn, Cond.code yX0_oftenIn cX0_oftenIn 6 (some .int), Cond.static yX4_isHeavy, Cond.code yX4_isHeavy cX4_isHeavy 4 (some .boolean)]
def wsX4_would : List Cond := .code yX4_would cX4_would 7 (some .int) :: ((wsX4_would_r1 ++ wsX4_would_r2) ++ wsX40 ++ wsX00)
set_option maxRecDepth 20000 in
theorem ggX4_count_X4_isValue : GoodIn wsX4_count wsX4_isValue := goodIn_r _ [5] rfl (by decide +kernel)
set_option maxRecDepth 20000 in
theorem gX4_count_X4_isValue : GoodIn wsX4_count (va_wsS RX4 68 yX4_isValue wsX4_isValue) := goodIn_app (goodIn_r _ [2, 3, 4] rfl (by decide +kernel)) ggX4_count_X4_isValue
set_option maxRecDepth 20000 in
theorem ggX4_count_X0_hasRange : GoodIn wsX4_count wsX0_hasRange := goodIn_r _ [10, 11, 26, 27] rfl (by decide +kernel)
set_option maxRecDepth 20000 in
theorem gX4_count_X0_hasRange : GoodIn wsX4_count (wsV RX4 79 RX0 yX0_hasRange wsX0_hasRange) := goodIn_app (goodIn_r _ [6, 7, 8, 9] rfl (by decide +kernel)) ggX4_count_X0_hasRange
set_option maxRecDepth 20000 in
theorem ggX4_count_X0_oftenIn : GoodIn wsX4_count wsX0_oftenIn := goodIn_r _ [15, 16, 26, 27] rfl (by decide +kernel)
set_option maxRecDepth 20000 in
theorem gX4_count_X0_oftenIn : GoodIn wsX4_count (wsV RX4 113 RX0 yX0_oftenIn wsX0_oftenIn) := goodIn_app (goodIn_r _ [12, 13, 14, 9] rfl (by decide +kernel)) ggX4_count_X0_oftenIn
def dt_cX4_count_0 : List (Nat × Nat × Nat × Nat) := [(0, 27, 0, 0), (1, 184, 2, 68), (4, 153, 2, 15), (7, 42, 0, 0), (8, 180, 2, 12), (11, 28, 0, 0), (12, 29, 0, 0), (13, 182, 2, 79), (16, 154, 2, 5), (19, 2, 0, 0), (20, 172, 0, 0), (21, 42, 0, 0), (22, 180, 2, 12), (25, 27, 0, 0), (26, 28, 0, 0), (27, 29, 0, 0), (28, 182, 2, 113), (31, 172, 0, 0)]
theorem da_cX4_count_0 : fw dt_cX4_count_0 0 cX4_count.data.toList = true := by decide +kernel
theorem dX4_count_0 : decode cX4_count 0 = .ok (.iload_n 1, 1) := fo_27 (fw_get da_cX4_count_0 0 rfl)
theorem dX4_count_1 : decode cX4_count 1 = .ok (.invokestatic 68, 3) := fo_184 (fw_get da_cX4_count_0 1 rfl)
theorem dX4_count_4 : decode cX4_count 4 = .ok (.ifCond .eq 15, 3) := fo_153 (fw_get da_cX4_count_0 2 rfl) (by decide +kernel)
theorem dX4_count_7 : decode cX4_count 7 = .ok (.aload_n 0, 1) := fo_42 (fw_get da_cX4_count_0 3 rfl)
theorem dX4_count_8 : decode cX4_count 8 = .ok (.getfield 12, 3) := fo_180 (fw_get da_cX4_count_0 4 rfl)
theorem dX4_count_11 : decode cX4_count 11 = .ok (.iload_n 2, 1) := fo_28 (fw_get da_cX4_count_0 5 rfl)
theorem dX4_count_12 : decode cX4_count 12 = .ok (.iload_n 3, 1) := fo_29 (fw_get da_cX4_count_0 6 rfl)
theorem dX4_count_13 : decode cX4_count 13 = .ok (.invokevirtual 79, 3) := fo_182 (fw_get da_cX4_count_0 7 rfl)
theorem dX4_count_16 : decode cX4_count 16 = .ok (.ifCond .ne 5, 3) := fo_154 (fw_get da_cX4_count_0 8 rfl) (by decide +kernel)
theorem dX4_count_19 : decode cX4_count 19 = .ok (.iconst (-1), 1) := fo_2 (fw_get da_cX4_count_0 9 rfl)
theorem dX4_count_20 : decode cX4_count 20 = .ok (.ireturn, 1) := fo_172 (fw_get da_cX4_count_0 10 rfl)
theorem dX4_count_21 : decode cX4_count 21 = .ok (.aload_n 0, 1) := fo_42 (fw_get da_cX4_count_0 11 rfl)
theorem dX4_count_22 : decode cX4_count 22 = .ok (.getfield 12, 3) := fo_180 (fw_get da_cX4_count_0 12 rfl)
theorem dX4_count_25 : decode cX4_count 25 = .ok (.iload_n 1, 1) := fo_27 (fw_get da_cX4_count_0 13 rfl)
theorem dX4_count_26 : decode cX4_count 26 = .ok (.iload_n 2, 1) := fo_28 (fw_get da_cX4_count_0 14 rfl)
theorem dX4_count_27 : decode cX4_count 27 = .ok (.iload_n 3, 1) := fo_29 (fw_get da_cX4_count_0 15 rfl)
theorem dX4_count_28 : decode cX4_count 28 = .ok (.invokevirtual 113, 3) := fo_182 (fw_get da_cX4_count_0 16 rfl)
theorem dX4_count_31 : decode cX4_count 31 = .ok (.ireturn, 1) := fo_172 (fw_get da_cX4_count_0 17 rfl)
def dt_cX4_place_0 : List (Nat × Nat × Nat × Nat) := [(0, 28, 0, 0), (1, 156, 2, 5), (4, 2, 0, 0), (5, 172, 0, 0), (6, 3, 0, 0), (7, 62, 0, 0), (8, 3, 0, 0), (9, 54, 1, 4), (11, 21, 1, 4), (13, 42, 0, 0), (14, 180, 2, 12), (17, 180, 2, 57), (20, 162, 2, 34), (23, 42, 0, 0), (24, 180, 2, 12), (27, 180, 2, 110), (30, 21, 1, 4), (32, 46, 0, 0), (33, 27, 0, 0), (34, 160, 2, 14)]
theorem da_cX4_place_0 : fw dt_cX4_place_0 0 cX4_place.data.toList = true := by decide +kernel
theorem dX4_place_0 : decode cX4_place 0 = .ok (.iload_n 2, 1) := fo_28 (fw_get da_cX4_place_0 0 rfl)
theorem dX4_place_1 : decode cX4_place 1 = .ok (.ifCond .ge 5, 3) := fo_156 (fw_get da_cX4_place_0 1 rfl) (by decide +kernel)
theorem dX4_place_4 : decode cX4_place 4 = .ok (.iconst (-1), 1) := fo_2 (fw_get da_cX4_place_0 2 rfl)
theorem dX4_place_5 : decode cX4_place 5 = .ok (.ireturn, 1) := fo_172 (fw_get da_cX4_place_0 3 rfl)
theorem dX4_place_6 : decode cX4_place 6 = .ok (.iconst 0, 1) := fo_3 (fw_get da_cX4_place_0 4 rfl)
theorem dX4_place_7 : decode cX4_place 7 = .ok (.istore_n 3, 1) := fo_62 (fw_get da_cX4_place_0 5 rfl)
theorem dX4_place_8 : decode cX4_place 8 = .ok (.iconst 0, 1) := fo_3 (fw_get da_cX4_place_0 6 rfl)
theorem dX4_place_9 : decode cX4_place 9 = .ok (.istore 4, 2) := fo_54 (fw_get da_cX4_place_0 7 rfl)
theorem dX4_place_11 : decode cX4_place 11 = .ok (.iload 4, 2) := fo_21 (fw_get da_cX4_place_0 8 rfl)
theorem dX4_place_13 : decode cX4_place 13 = .ok (.aload_n 0, 1) := fo_42 (fw_get da_cX4_place_0 9 rfl)
theorem dX4_place_14 : decode cX4_place 14 = .ok (.getfield 12, 3) := fo_180 (fw_get da_cX4_place_0 10 rfl)
theorem dX4_place_17 : decode cX4_place 17 = .ok (.getfield 57, 3) := fo_180 (fw_get da_cX4_place_0 11 rfl)
theorem dX4_place_20 : decode cX4_place 20 = .ok (.if_icmp .ge 34, 3) := fo_162 (fw_get da_cX4_place_0 12 rfl) (by decide +kernel)
theorem dX4_place_23 : decode cX4_place 23 = .ok (.aload_n 0, 1) := fo_42 (fw_get da_cX4_place_0 13 rfl)
theorem dX4_place_24 : decode cX4_place 24 = .ok (.getfield 12, 3) := fo_180 (fw_get da_cX4_place_0 14 rfl)
theorem dX4_place_27 : decode cX4_place 27 = .ok (.getfield 110, 3) := fo_180 (fw_get da_cX4_place_0 15 rfl)
theorem dX4_place_30 : decode cX4_place 30 = .ok (.iload 4, 2) := fo_21 (fw_get da_cX4_place_0 16 rfl)
theorem dX4_place_32 : decode cX4_place 32 = .ok (.iaload, 1) := fo_46 (fw_get da_cX4_place_0 17 rfl)
theorem dX4_place_33 : decode cX4_place 33 = .ok (.iload_n 1, 1) := fo_27 (fw_get da_cX4_place_0 18 rfl)
theorem dX4_place_34 : decode cX4_place 34 = .ok (.if_icmp .ne 14, 3) := fo_160 (fw_get da_cX4_place_0 19 rfl) (by decide +kernel)
def dt_cX4_place_1 : List (Nat × Nat × Nat × Nat) := [(37, 29, 0, 0), (38, 28, 0, 0), (39, 160, 2, 6), (42, 21, 1, 4), (44, 172, 0, 0), (45, 132, 2, 769), (48, 132, 2, 1025), (51, 167, 2, 65496), (54, 2, 0, 0), (55, 172, 0, 0)]
theorem da_cX4_place_1 : fw dt_cX4_place_1 0 cX4_place.data.toList = true := by decide +kernel
theorem dX4_place_37 : decode cX4_place 37 = .ok (.iload_n 3, 1) := fo_29 (fw_get da_cX4_place_1 0 rfl)
theorem dX4_place_38 : decode cX4_place 38 = .ok (.iload_n 2, 1) := fo_28 (fw_get da_cX4_place_1 1 rfl)
theorem dX4_place_39 : decode cX4_place 39 = .ok (.if_icmp .ne 6, 3) := fo_160 (fw_get da_cX4_place_1 2 rfl) (by decide +kernel)
theorem dX4_place_42 : decode cX4_place 42 = .ok (.iload 4, 2) := fo_21 (fw_get da_cX4_place_1 3 rfl)
theorem dX4_place_44 : decode cX4_place 44 = .ok (.ireturn, 1) := fo_172 (fw_get da_cX4_place_1 4 rfl)
theorem dX4_place_45 : decode cX4_place 45 = .ok (.iinc 3 1, 3) := fo_132 (fw_get da_cX4_place_1 5 rfl) rfl (by decide +kernel)
theorem dX4_place_48 : decode cX4_place 48 = .ok (.iinc 4 1, 3) := fo_132 (fw_get da_cX4_place_1 6 rfl) rfl (by decide +kernel)
theorem dX4_place_51 : decode cX4_place 51 = .ok (.goto (-40), 3) := fo_167 (fw_get da_cX4_place_1 7 rfl) (by decide +kernel)
theorem dX4_place_54 : decode cX4_place 54 = .ok (.iconst (-1), 1) := fo_2 (fw_get da_cX4_place_1 8 rfl)
theorem dX4_place_55 : decode cX4_place 55 = .ok (.ireturn, 1) := fo_172 (fw_get da_cX4_place_1 9 rfl)
set_option maxRecDepth 20000 in
theorem ggX4_values_X1_learn : GoodIn wsX4_values wsX1_learn := goodIn_r _ [9, 10, 11, 12, 13, 14, 15, 16, 17, 27, 28, 29, 30, 31, 32] rfl (by decide +kernel)
set_option maxRecDepth 20000 in
theorem gX4_values_X1_learn : GoodIn wsX4_values (wsV RX4 117 RX1 yX1_learn wsX1_learn) := goodIn_app (goodIn_r _ [5, 6, 7, 8] rfl (by decide +kernel)) ggX4_values_X1_learn
def dt_cX4_values_0 : List (Nat × Nat × Nat × Nat) := [(0, 42, 0, 0), (1, 180, 2, 28), (4, 42, 0, 0), (5, 180, 2, 12), (8, 182, 2, 117), (11, 3, 0, 0), (12, 60, 0, 0), (13, 3, 0, 0), (14, 61, 0, 0), (15, 28, 0, 0), (16, 42, 0, 0), (17, 180, 2, 12), (20, 180, 2, 57), (23, 162, 2, 25), (26, 42, 0, 0), (27, 180, 2, 28), (30, 180, 2, 120), (33, 28, 0, 0), (34, 46, 0, 0), (35, 28, 0, 0)]
theorem da_cX4_values_0 : fw dt_cX4_values_0 0 cX4_values.data.toList = true := by decide +kernel
theorem dX4_values_0 : decode cX4_values 0 = .ok (.aload_n 0, 1) := fo_42 (fw_get da_cX4_values_0 0 rfl)
theorem dX4_values_1 : decode cX4_values 1 = .ok (.getfield 28, 3) := fo_180 (fw_get da_cX4_values_0 1 rfl)
theorem dX4_values_4 : decode cX4_values 4 = .ok (.aload_n 0, 1) := fo_42 (fw_get da_cX4_values_0 2 rfl)
theorem dX4_values_5 : decode cX4_values 5 = .ok (.getfield 12, 3) := fo_180 (fw_get da_cX4_values_0 3 rfl)
theorem dX4_values_8 : decode cX4_values 8 = .ok (.invokevirtual 117, 3) := fo_182 (fw_get da_cX4_values_0 4 rfl)
theorem dX4_values_11 : decode cX4_values 11 = .ok (.iconst 0, 1) := fo_3 (fw_get da_cX4_values_0 5 rfl)
theorem dX4_values_12 : decode cX4_values 12 = .ok (.istore_n 1, 1) := fo_60 (fw_get da_cX4_values_0 6 rfl)
theorem dX4_values_13 : decode cX4_values 13 = .ok (.iconst 0, 1) := fo_3 (fw_get da_cX4_values_0 7 rfl)
theorem dX4_values_14 : decode cX4_values 14 = .ok (.istore_n 2, 1) := fo_61 (fw_get da_cX4_values_0 8 rfl)
theorem dX4_values_15 : decode cX4_values 15 = .ok (.iload_n 2, 1) := fo_28 (fw_get da_cX4_values_0 9 rfl)
theorem dX4_values_16 : decode cX4_values 16 = .ok (.aload_n 0, 1) := fo_42 (fw_get da_cX4_values_0 10 rfl)
theorem dX4_values_17 : decode cX4_values 17 = .ok (.getfield 12, 3) := fo_180 (fw_get da_cX4_values_0 11 rfl)
theorem dX4_values_20 : decode cX4_values 20 = .ok (.getfield 57, 3) := fo_180 (fw_get da_cX4_values_0 12 rfl)
theorem dX4_values_23 : decode cX4_values 23 = .ok (.if_icmp .ge 25, 3) := fo_162 (fw_get da_cX4_values_0 13 rfl) (by decide +kernel)
theorem dX4_values_26 : decode cX4_values 26 = .ok (.aload_n 0, 1) := fo_42 (fw_get da_cX4_values_0 14 rfl)
theorem dX4_values_27 : decode cX4_values 27 = .ok (.getfield 28, 3) := fo_180 (fw_get da_cX4_values_0 15 rfl)
theorem dX4_values_30 : decode cX4_values 30 = .ok (.getfield 120, 3) := fo_180 (fw_get da_cX4_values_0 16 rfl)
theorem dX4_values_33 : decode cX4_values 33 = .ok (.iload_n 2, 1) := fo_28 (fw_get da_cX4_values_0 17 rfl)
theorem dX4_values_34 : decode cX4_values 34 = .ok (.iaload, 1) := fo_46 (fw_get da_cX4_values_0 18 rfl)
theorem dX4_values_35 : decode cX4_values 35 = .ok (.iload_n 2, 1) := fo_28 (fw_get da_cX4_values_0 19 rfl)
def dt_cX4_values_1 : List (Nat × Nat × Nat × Nat) := [(36, 160, 2, 6), (39, 132, 2, 257), (42, 132, 2, 513), (45, 167, 2, 65506), (48, 27, 0, 0), (49, 172, 0, 0)]
theorem da_cX4_values_1 : fw dt_cX4_values_1 0 cX4_values.data.toList = true := by decide +kernel
theorem dX4_values_36 : decode cX4_values 36 = .ok (.if_icmp .ne 6, 3) := fo_160 (fw_get da_cX4_values_1 0 rfl) (by decide +kernel)
theorem dX4_values_39 : decode cX4_values 39 = .ok (.iinc 1 1, 3) := fo_132 (fw_get da_cX4_values_1 1 rfl) rfl (by decide +kernel)
theorem dX4_values_42 : decode cX4_values 42 = .ok (.iinc 2 1, 3) := fo_132 (fw_get da_cX4_values_1 2 rfl) rfl (by decide +kernel)
theorem dX4_values_45 : decode cX4_values 45 = .ok (.goto (-30), 3) := fo_167 (fw_get da_cX4_values_1 3 rfl) (by decide +kernel)
theorem dX4_values_48 : decode cX4_values 48 = .ok (.iload_n 1, 1) := fo_27 (fw_get da_cX4_values_1 4 rfl)
theorem dX4_values_49 : decode cX4_values 49 = .ok (.ireturn, 1) := fo_172 (fw_get da_cX4_values_1 5 rfl)
set_option maxRecDepth 20000 in
theorem ggX4_majority_X0_hasRange : GoodIn wsX4_majority wsX0_hasRange := goodIn_r _ [7, 8, 31, 32] rfl (by decide +kernel)
set_option maxRecDepth 20000 in
theorem gX4_majority_X0_hasRange : GoodIn wsX4_majority (wsV RX4 79 RX0 yX0_hasRange wsX0_hasRange) := goodIn_app (goodIn_r _ [3, 4, 5, 6] rfl (by decide +kernel)) ggX4_majority_X0_hasRange
set_option maxRecDepth 20000 in
theorem ggX4_majority_X0_leader : GoodIn wsX4_majority wsX0_leader := goodIn_r _ [12, 13, 14, 15, 16, 17, 6, 18, 19, 20, 21, 31, 32] rfl (by decide +kernel)
set_option maxRecDepth 20000 in
theorem gX4_majority_X0_leader : GoodIn wsX4_majority (wsV RX4 207 RX0 yX0_leader wsX0_leader) := goodIn_app (goodIn_r _ [9, 10, 11, 6] rfl (by decide +kernel)) ggX4_majority_X0_leader
def dt_cX4_majority_0 : List (Nat × Nat × Nat × Nat) := [(0, 42, 0, 0), (1, 180, 2, 12), (4, 27, 0, 0), (5, 28, 0, 0), (6, 182, 2, 79), (9, 153, 2, 15), (12, 42, 0, 0), (13, 180, 2, 12), (16, 27, 0, 0), (17, 28, 0, 0), (18, 182, 2, 207), (21, 167, 2, 5), (24, 18, 1, 102), (26, 172, 0, 0)]
theorem da_cX4_majority_0 : fw dt_cX4_majority_0 0 cX4_majority.data.toList = true := by decide +kernel
theorem dX4_majority_0 : decode cX4_majority 0 = .ok (.aload_n 0, 1) := fo_42 (fw_get da_cX4_majority_0 0 rfl)
theorem dX4_majority_1 : decode cX4_majority 1 = .ok (.getfield 12, 3) := fo_180 (fw_get da_cX4_majority_0 1 rfl)
theorem dX4_majority_4 : decode cX4_majority 4 = .ok (.iload_n 1, 1) := fo_27 (fw_get da_cX4_majority_0 2 rfl)
theorem dX4_majority_5 : decode cX4_majority 5 = .ok (.iload_n 2, 1) := fo_28 (fw_get da_cX4_majority_0 3 rfl)
theorem dX4_majority_6 : decode cX4_majority 6 = .ok (.invokevirtual 79, 3) := fo_182 (fw_get da_cX4_majority_0 4 rfl)
theorem dX4_majority_9 : decode cX4_majority 9 = .ok (.ifCond .eq 15, 3) := fo_153 (fw_get da_cX4_majority_0 5 rfl) (by decide +kernel)
theorem dX4_majority_12 : decode cX4_majority 12 = .ok (.aload_n 0, 1) := fo_42 (fw_get da_cX4_majority_0 6 rfl)
theorem dX4_majority_13 : decode cX4_majority 13 = .ok (.getfield 12, 3) := fo_180 (fw_get da_cX4_majority_0 7 rfl)
theorem dX4_majority_16 : decode cX4_majority 16 = .ok (.iload_n 1, 1) := fo_27 (fw_get da_cX4_majority_0 8 rfl)
theorem dX4_majority_17 : decode cX4_majority 17 = .ok (.iload_n 2, 1) := fo_28 (fw_get da_cX4_majority_0 9 rfl)
theorem dX4_majority_18 : decode cX4_majority 18 = .ok (.invokevirtual 207, 3) := fo_182 (fw_get da_cX4_majority_0 10 rfl)
theorem dX4_majority_21 : decode cX4_majority 21 = .ok (.goto 5, 3) := fo_167 (fw_get da_cX4_majority_0 11 rfl) (by decide +kernel)
theorem dX4_majority_24 : decode cX4_majority 24 = .ok (.ldc 102, 2) := fo_18 (fw_get da_cX4_majority_0 12 rfl)
theorem dX4_majority_26 : decode cX4_majority 26 = .ok (.ireturn, 1) := fo_172 (fw_get da_cX4_majority_0 13 rfl)
set_option maxRecDepth 20000 in
theorem ggX4_margin_X4_isValue : GoodIn wsX4_margin wsX4_isValue := goodIn_r _ [6] rfl (by decide +kernel)
set_option maxRecDepth 20000 in
theorem gX4_margin_X4_isValue : GoodIn wsX4_margin (va_wsS RX4 68 yX4_isValue wsX4_isValue) := goodIn_app (goodIn_r _ [3, 4, 5] rfl (by decide +kernel)) ggX4_margin_X4_isValue
set_option maxRecDepth 20000 in
theorem ggX4_margin_X0_hasRange : GoodIn wsX4_margin wsX0_hasRange := goodIn_r _ [11, 12, 27, 28] rfl (by decide +kernel)
set_option maxRecDepth 20000 in
theorem gX4_margin_X0_hasRange : GoodIn wsX4_margin (wsV RX4 79 RX0 yX0_hasRange wsX0_hasRange) := goodIn_app (goodIn_r _ [7, 8, 9, 10] rfl (by decide +kernel)) ggX4_margin_X0_hasRange
set_option maxRecDepth 20000 in
theorem ggX4_margin_X0_oftenIn : GoodIn wsX4_margin wsX0_oftenIn := goodIn_r _ [16, 17, 27, 28] rfl (by decide +kernel)
set_option maxRecDepth 20000 in
theorem gX4_margin_X0_oftenIn : GoodIn wsX4_margin (wsV RX4 113 RX0 yX0_oftenIn wsX0_oftenIn) := goodIn_app (goodIn_r _ [13, 14, 15, 10] rfl (by decide +kernel)) ggX4_margin_X0_oftenIn
def dt_cX4_margin_0 : List (Nat × Nat × Nat × Nat) := [(0, 27, 0, 0), (1, 184, 2, 68), (4, 153, 2, 15), (7, 42, 0, 0), (8, 180, 2, 12), (11, 28, 0, 0), (12, 29, 0, 0), (13, 182, 2, 79), (16, 154, 2, 6), (19, 18, 1, 102), (21, 172, 0, 0), (22, 5, 0, 0), (23, 42, 0, 0), (24, 180, 2, 12), (27, 27, 0, 0), (28, 28, 0, 0), (29, 29, 0, 0), (30, 182, 2, 113), (33, 104, 0, 0), (34, 29, 0, 0)]
theorem da_cX4_margin_0 : fw dt_cX4_margin_0 0 cX4_margin.data.toList = true := by decide +kernel
theorem dX4_margin_0 : decode cX4_margin 0 = .ok (.iload_n 1, 1) := fo_27 (fw_get da_cX4_margin_0 0 rfl)
theorem dX4_margin_1 : decode cX4_margin 1 = .ok (.invokestatic 68, 3) := fo_184 (fw_get da_cX4_margin_0 1 rfl)
theorem dX4_margin_4 : decode cX4_margin 4 = .ok (.ifCond .eq 15, 3) := fo_153 (fw_get da_cX4_margin_0 2 rfl) (by decide +kernel)
theorem dX4_margin_7 : decode cX4_margin 7 = .ok (.aload_n 0, 1) := fo_42 (fw_get da_cX4_margin_0 3 rfl)
theorem dX4_margin_8 : decode cX4_margin 8 = .ok (.getfield 12, 3) := fo_180 (fw_get da_cX4_margin_0 4 rfl)
theorem dX4_margin_11 : decode cX4_margin 11 = .ok (.iload_n 2, 1) := fo_28 (fw_get da_cX4_margin_0 5 rfl)
theorem dX4_margin_12 : decode cX4_margin 12 = .ok (.iload_n 3, 1) := fo_29 (fw_get da_cX4_margin_0 6 rfl)
theorem dX4_margin_13 : decode cX4_margin 13 = .ok (.invokevirtual 79, 3) := fo_182 (fw_get da_cX4_margin_0 7 rfl)
theorem dX4_margin_16 : decode cX4_margin 16 = .ok (.ifCond .ne 6, 3) := fo_154 (fw_get da_cX4_margin_0 8 rfl) (by decide +kernel)
theorem dX4_margin_19 : decode cX4_margin 19 = .ok (.ldc 102, 2) := fo_18 (fw_get da_cX4_margin_0 9 rfl)
theorem dX4_margin_21 : decode cX4_margin 21 = .ok (.ireturn, 1) := fo_172 (fw_get da_cX4_margin_0 10 rfl)
theorem dX4_margin_22 : decode cX4_margin 22 = .ok (.iconst 2, 1) := fo_5 (fw_get da_cX4_margin_0 11 rfl)
theorem dX4_margin_23 : decode cX4_margin 23 = .ok (.aload_n 0, 1) := fo_42 (fw_get da_cX4_margin_0 12 rfl)
theorem dX4_margin_24 : decode cX4_margin 24 = .ok (.getfield 12, 3) := fo_180 (fw_get da_cX4_margin_0 13 rfl)
theorem dX4_margin_27 : decode cX4_margin 27 = .ok (.iload_n 1, 1) := fo_27 (fw_get da_cX4_margin_0 14 rfl)
theorem dX4_margin_28 : decode cX4_margin 28 = .ok (.iload_n 2, 1) := fo_28 (fw_get da_cX4_margin_0 15 rfl)
theorem dX4_margin_29 : decode cX4_margin 29 = .ok (.iload_n 3, 1) := fo_29 (fw_get da_cX4_margin_0 16 rfl)
theorem dX4_margin_30 : decode cX4_margin 30 = .ok (.invokevirtual 113, 3) := fo_182 (fw_get da_cX4_margin_0 17 rfl)
theorem dX4_margin_33 : decode cX4_margin 33 = .ok (.imul, 1) := fo_104 (fw_get da_cX4_margin_0 18 rfl)
theorem dX4_margin_34 : decode cX4_margin 34 = .ok (.iload_n 3, 1) := fo_29 (fw_get da_cX4_margin_0 19 rfl)
def dt_cX4_margin_1 : List (Nat × Nat × Nat × Nat) := [(35, 28, 0, 0), (36, 100, 0, 0), (37, 100, 0, 0), (38, 172, 0, 0)]
theorem da_cX4_margin_1 : fw dt_cX4_margin_1 0 cX4_margin.data.toList = true := by decide +kernel
theorem dX4_margin_35 : decode cX4_margin 35 = .ok (.iload_n 2, 1) := fo_28 (fw_get da_cX4_margin_1 0 rfl)
theorem dX4_margin_36 : decode cX4_margin 36 = .ok (.isub, 1) := fo_100 (fw_get da_cX4_margin_1 1 rfl)
theorem dX4_margin_37 : decode cX4_margin 37 = .ok (.isub, 1) := fo_100 (fw_get da_cX4_margin_1 2 rfl)
theorem dX4_margin_38 : decode cX4_margin 38 = .ok (.ireturn, 1) := fo_172 (fw_get da_cX4_margin_1 3 rfl)
set_option maxRecDepth 20000 in
theorem ggX4_longest_X4_isValue : GoodIn wsX4_longest wsX4_isValue := goodIn_r _ [6] rfl (by decide +kernel)
set_option maxRecDepth 20000 in
theorem gX4_longest_X4_isValue : GoodIn wsX4_longest (va_wsS RX4 68 yX4_isValue wsX4_isValue) := goodIn_app (goodIn_r _ [3, 4, 5] rfl (by decide +kernel)) ggX4_longest_X4_isValue
set_option maxRecDepth 20000 in
theorem ggX4_longest_X4_isShare : GoodIn wsX4_longest wsX4_isShare := goodIn_r _ [9] rfl (by decide +kernel)
set_option maxRecDepth 20000 in
theorem gX4_longest_X4_isShare : GoodIn wsX4_longest (va_wsS RX4 186 yX4_isShare wsX4_isShare) := goodIn_app (goodIn_r _ [7, 8, 5] rfl (by decide +kernel)) ggX4_longest_X4_isShare
set_option maxRecDepth 20000 in
theorem ggX4_longest_X4_farthestHeavy : GoodIn wsX4_longest wsX4_farthestHeavy := goodIn_r _ [13, 1, 2, 14, 15, 16, 5, 17, 18, 19, 20, 21, 22, 23, 24, 25, 26, 27, 28] rfl (by decide +kernel)
set_option maxRecDepth 20000 in
theorem gX4_longest_X4_farthestHeavy : GoodIn wsX4_longest (wsV RX4 218 RX4 yX4_farthestHeavy wsX4_farthestHeavy) := goodIn_app (goodIn_r _ [10, 11, 12, 5] rfl (by decide +kernel)) ggX4_longest_X4_farthestHeavy
def dt_cX4_longest_0 : List (Nat × Nat × Nat × Nat) := [(0, 27, 0, 0), (1, 184, 2, 68), (4, 153, 2, 22), (7, 28, 0, 0), (8, 29, 0, 0), (9, 184, 2, 186), (12, 153, 2, 14), (15, 21, 1, 4), (17, 155, 2, 9), (20, 21, 1, 4), (22, 4, 0, 0), (23, 164, 2, 5), (26, 2, 0, 0), (27, 172, 0, 0), (28, 2, 0, 0), (29, 54, 1, 5), (31, 2, 0, 0), (32, 54, 1, 6), (34, 3, 0, 0), (35, 54, 1, 7)]
theorem da_cX4_longest_0 : fw dt_cX4_longest_0 0 cX4_longest.data.toList = true := by decide +kernel
theorem dX4_longest_0 : decode cX4_longest 0 = .ok (.iload_n 1, 1) := fo_27 (fw_get da_cX4_longest_0 0 rfl)
theorem dX4_longest_1 : decode cX4_longest 1 = .ok (.invokestatic 68, 3) := fo_184 (fw_get da_cX4_longest_0 1 rfl)
theorem dX4_longest_4 : decode cX4_longest 4 = .ok (.ifCond .eq 22, 3) := fo_153 (fw_get da_cX4_longest_0 2 rfl) (by decide +kernel)
theorem dX4_longest_7 : decode cX4_longest 7 = .ok (.iload_n 2, 1) := fo_28 (fw_get da_cX4_longest_0 3 rfl)
theorem dX4_longest_8 : decode cX4_longest 8 = .ok (.iload_n 3, 1) := fo_29 (fw_get da_cX4_longest_0 4 rfl)
theorem dX4_longest_9 : decode cX4_longest 9 = .ok (.invokestatic 186, 3) := fo_184 (fw_get da_cX4_longest_0 5 rfl)
theorem dX4_longest_12 : decode cX4_longest 12 = .ok (.ifCond .eq 14, 3) := fo_153 (fw_get da_cX4_longest_0 6 rfl) (by decide +kernel)
theorem dX4_longest_15 : decode cX4_longest 15 = .ok (.iload 4, 2) := fo_21 (fw_get da_cX4_longest_0 7 rfl)
theorem dX4_longest_17 : decode cX4_longest 17 = .ok (.ifCond .lt 9, 3) := fo_155 (fw_get da_cX4_longest_0 8 rfl) (by decide +kernel)
theorem dX4_longest_20 : decode cX4_longest 20 = .ok (.iload 4, 2) := fo_21 (fw_get da_cX4_longest_0 9 rfl)
theorem dX4_longest_22 : decode cX4_longest 22 = .ok (.iconst 1, 1) := fo_4 (fw_get da_cX4_longest_0 10 rfl)
theorem dX4_longest_23 : decode cX4_longest 23 = .ok (.if_icmp .le 5, 3) := fo_164 (fw_get da_cX4_longest_0 11 rfl) (by decide +kernel)
theorem dX4_longest_26 : decode cX4_longest 26 = .ok (.iconst (-1), 1) := fo_2 (fw_get da_cX4_longest_0 12 rfl)
theorem dX4_longest_27 : decode cX4_longest 27 = .ok (.ireturn, 1) := fo_172 (fw_get da_cX4_longest_0 13 rfl)
theorem dX4_longest_28 : decode cX4_longest 28 = .ok (.iconst (-1), 1) := fo_2 (fw_get da_cX4_longest_0 14 rfl)
theorem dX4_longest_29 : decode cX4_longest 29 = .ok (.istore 5, 2) := fo_54 (fw_get da_cX4_longest_0 15 rfl)
theorem dX4_longest_31 : decode cX4_longest 31 = .ok (.iconst (-1), 1) := fo_2 (fw_get da_cX4_longest_0 16 rfl)
theorem dX4_longest_32 : decode cX4_longest 32 = .ok (.istore 6, 2) := fo_54 (fw_get da_cX4_longest_0 17 rfl)
theorem dX4_longest_34 : decode cX4_longest 34 = .ok (.iconst 0, 1) := fo_3 (fw_get da_cX4_longest_0 18 rfl)
theorem dX4_longest_35 : decode cX4_longest 35 = .ok (.istore 7, 2) := fo_54 (fw_get da_cX4_longest_0 19 rfl)
def dt_cX4_longest_1 : List (Nat × Nat × Nat × Nat) := [(37, 21, 1, 7), (39, 42, 0, 0), (40, 180, 2, 12), (43, 180, 2, 57), (46, 162, 2, 47), (49, 42, 0, 0), (50, 27, 0, 0), (51, 21, 1, 7), (53, 28, 0, 0), (54, 29, 0, 0), (55, 182, 2, 218), (58, 54, 1, 8), (60, 21, 1, 8), (62, 2, 0, 0), (63, 159, 2, 24), (66, 21, 1, 8), (68, 21, 1, 7), (70, 100, 0, 0), (71, 21, 1, 6), (73, 21, 1, 5)]
theorem da_cX4_longest_1 : fw dt_cX4_longest_1 0 cX4_longest.data.toList = true := by decide +kernel
theorem dX4_longest_37 : decode cX4_longest 37 = .ok (.iload 7, 2) := fo_21 (fw_get da_cX4_longest_1 0 rfl)
theorem dX4_longest_39 : decode cX4_longest 39 = .ok (.aload_n 0, 1) := fo_42 (fw_get da_cX4_longest_1 1 rfl)
theorem dX4_longest_40 : decode cX4_longest 40 = .ok (.getfield 12, 3) := fo_180 (fw_get da_cX4_longest_1 2 rfl)
theorem dX4_longest_43 : decode cX4_longest 43 = .ok (.getfield 57, 3) := fo_180 (fw_get da_cX4_longest_1 3 rfl)
theorem dX4_longest_46 : decode cX4_longest 46 = .ok (.if_icmp .ge 47, 3) := fo_162 (fw_get da_cX4_longest_1 4 rfl) (by decide +kernel)
theorem dX4_longest_49 : decode cX4_longest 49 = .ok (.aload_n 0, 1) := fo_42 (fw_get da_cX4_longest_1 5 rfl)
theorem dX4_longest_50 : decode cX4_longest 50 = .ok (.iload_n 1, 1) := fo_27 (fw_get da_cX4_longest_1 6 rfl)
theorem dX4_longest_51 : decode cX4_longest 51 = .ok (.iload 7, 2) := fo_21 (fw_get da_cX4_longest_1 7 rfl)
theorem dX4_longest_53 : decode cX4_longest 53 = .ok (.iload_n 2, 1) := fo_28 (fw_get da_cX4_longest_1 8 rfl)
theorem dX4_longest_54 : decode cX4_longest 54 = .ok (.iload_n 3, 1) := fo_29 (fw_get da_cX4_longest_1 9 rfl)
theorem dX4_longest_55 : decode cX4_longest 55 = .ok (.invokevirtual 218, 3) := fo_182 (fw_get da_cX4_longest_1 10 rfl)
theorem dX4_longest_58 : decode cX4_longest 58 = .ok (.istore 8, 2) := fo_54 (fw_get da_cX4_longest_1 11 rfl)
theorem dX4_longest_60 : decode cX4_longest 60 = .ok (.iload 8, 2) := fo_21 (fw_get da_cX4_longest_1 12 rfl)
theorem dX4_longest_62 : decode cX4_longest 62 = .ok (.iconst (-1), 1) := fo_2 (fw_get da_cX4_longest_1 13 rfl)
theorem dX4_longest_63 : decode cX4_longest 63 = .ok (.if_icmp .eq 24, 3) := fo_159 (fw_get da_cX4_longest_1 14 rfl) (by decide +kernel)
theorem dX4_longest_66 : decode cX4_longest 66 = .ok (.iload 8, 2) := fo_21 (fw_get da_cX4_longest_1 15 rfl)
theorem dX4_longest_68 : decode cX4_longest 68 = .ok (.iload 7, 2) := fo_21 (fw_get da_cX4_longest_1 16 rfl)
theorem dX4_longest_70 : decode cX4_longest 70 = .ok (.isub, 1) := fo_100 (fw_get da_cX4_longest_1 17 rfl)
theorem dX4_longest_71 : decode cX4_longest 71 = .ok (.iload 6, 2) := fo_21 (fw_get da_cX4_longest_1 18 rfl)
theorem dX4_longest_73 : decode cX4_longest 73 = .ok (.iload 5, 2) := fo_21 (fw_get da_cX4_longest_1 19 rfl)
def dt_cX4_longest_2 : List (Nat × Nat × Nat × Nat) := [(75, 100, 0, 0), (76, 164, 2, 11), (79, 21, 1, 7), (81, 54, 1, 5), (83, 21, 1, 8), (85, 54, 1, 6), (87, 132, 2, 1793), (90, 167, 2, 65483), (93, 21, 1, 4), (95, 154, 2, 8), (98, 21, 1, 5), (100, 167, 2, 5), (103, 21, 1, 6), (105, 172, 0, 0)]
theorem da_cX4_longest_2 : fw dt_cX4_longest_2 0 cX4_longest.data.toList = true := by decide +kernel
theorem dX4_longest_75 : decode cX4_longest 75 = .ok (.isub, 1) := fo_100 (fw_get da_cX4_longest_2 0 rfl)
theorem dX4_longest_76 : decode cX4_longest 76 = .ok (.if_icmp .le 11, 3) := fo_164 (fw_get da_cX4_longest_2 1 rfl) (by decide +kernel)
theorem dX4_longest_79 : decode cX4_longest 79 = .ok (.iload 7, 2) := fo_21 (fw_get da_cX4_longest_2 2 rfl)
theorem dX4_longest_81 : decode cX4_longest 81 = .ok (.istore 5, 2) := fo_54 (fw_get da_cX4_longest_2 3 rfl)
theorem dX4_longest_83 : decode cX4_longest 83 = .ok (.iload 8, 2) := fo_21 (fw_get da_cX4_longest_2 4 rfl)
theorem dX4_longest_85 : decode cX4_longest 85 = .ok (.istore 6, 2) := fo_54 (fw_get da_cX4_longest_2 5 rfl)
theorem dX4_longest_87 : decode cX4_longest 87 = .ok (.iinc 7 1, 3) := fo_132 (fw_get da_cX4_longest_2 6 rfl) rfl (by decide +kernel)
theorem dX4_longest_90 : decode cX4_longest 90 = .ok (.goto (-53), 3) := fo_167 (fw_get da_cX4_longest_2 7 rfl) (by decide +kernel)
theorem dX4_longest_93 : decode cX4_longest 93 = .ok (.iload 4, 2) := fo_21 (fw_get da_cX4_longest_2 8 rfl)
theorem dX4_longest_95 : decode cX4_longest 95 = .ok (.ifCond .ne 8, 3) := fo_154 (fw_get da_cX4_longest_2 9 rfl) (by decide +kernel)
theorem dX4_longest_98 : decode cX4_longest 98 = .ok (.iload 5, 2) := fo_21 (fw_get da_cX4_longest_2 10 rfl)
theorem dX4_longest_100 : decode cX4_longest 100 = .ok (.goto 5, 3) := fo_167 (fw_get da_cX4_longest_2 11 rfl) (by decide +kernel)
theorem dX4_longest_103 : decode cX4_longest 103 = .ok (.iload 6, 2) := fo_21 (fw_get da_cX4_longest_2 12 rfl)
theorem dX4_longest_105 : decode cX4_longest 105 = .ok (.ireturn, 1) := fo_172 (fw_get da_cX4_longest_2 13 rfl)
theorem mi_wsX4_reach_wsX4_reach_r1 : ∀ w ∈ wsX4_reach_r1, w ∈ wsX4_reach := fun _ h => (List.mem_cons_of_mem _ (List.mem_append_left _ (List.mem_append_left _ (List.mem_append_left _ (List.mem_append_left _ h)))))
theorem mi_wsX4_reach_wsX00 : ∀ w ∈ wsX00, w ∈ wsX4_reach := fun _ h => (List.mem_cons_of_mem _ (List.mem_append_left _ (List.mem_append_right _ h)))
set_option maxRecDepth 20000 in
theorem ggX4_reach_X0_hasPlace : GoodIn wsX4_reach wsX0_hasPlace := goodIn_m _ [(wsX4_reach_r1, [false, false, false, false, false, false, false, true, true]), (wsX00, [true, true])] (gm_c mi_wsX4_reach_wsX4_reach_r1 (gm_c mi_wsX4_reach_wsX00 gm_n)) rfl (by decide +kernel)
set_option maxRecDepth 20000 in
theorem gX4_reach_X0_hasPlace : GoodIn wsX4_reach (wsV RX4 64 RX0 yX0_hasPlace wsX0_hasPlace) := goodIn_app (goodIn_m _ [(wsX4_reach_r1, [false, false, false, true, true, true, true])] (gm_c mi_wsX4_reach_wsX4_reach_r1 gm_n) rfl (by decide +kernel)) ggX4_reach_X0_hasPlace
theorem mi_wsX4_reach_wsX10 : ∀ w ∈ wsX10, w ∈ wsX4_reach := fun _ h => (List.mem_cons_of_mem _ (List.mem_append_right _ h))
set_option maxRecDepth 20000 in
theorem ggX4_reach_X1_learn : GoodIn wsX4_reach wsX1_learn := goodIn_m _ [(wsX4_reach_r1, [false, false, false, false, false, false, false, false, false, false, false, false, false, true, true, true, true, true, true]), (wsX4_reach_r1, [false, false, false, false, false, false, true, false, false, false, false, false, false, false, false, false, false, false, false, true, true]), (wsX00, [true, true]), (wsX10, [true, true, true, true])] (gm_c mi_wsX4_reach_wsX4_reach_r1 (gm_c mi_wsX4_reach_wsX4_reach_r1 (gm_c mi_wsX4_reach_wsX00 (gm_c mi_wsX4_reach_wsX10 gm_n)))) rfl (by decide +kernel)
set_option maxRecDepth 20000 in
theorem gX4_reach_X1_learn : GoodIn wsX4_reach (wsV RX4 117 RX1 yX1_learn wsX1_learn) := goodIn_app (goodIn_m _ [(wsX4_reach_r1, [false, false, false, false, false, false, false, false, false, true, true, true, true])] (gm_c mi_wsX4_reach_wsX4_reach_r1 gm_n) rfl (by decide +kernel)) ggX4_reach_X1_learn
theorem mi_wsX4_reach_wsX4_reach_r2 : ∀ w ∈ wsX4_reach_r2, w ∈ wsX4_reach := fun _ h => (List.mem_cons_of_mem _ (List.mem_append_left _ (List.mem_append_left _ (List.mem_append_left _ (List.mem_append_right _ h)))))
set_option maxRecDepth 20000 in
theorem ggX4_reach_X1_clear : GoodIn wsX4_reach wsX1_clear := goodIn_m _ [(wsX4_reach_r2, [true, true, true, true, true, true, true, true]), (wsX10, [true, true, true, true])] (gm_c mi_wsX4_reach_wsX4_reach_r2 (gm_c mi_wsX4_reach_wsX10 gm_n)) rfl (by decide +kernel)
set_option maxRecDepth 20000 in
theorem gX4_reach_X1_clear : GoodIn wsX4_reach (wsV RX4 221 RX1 yX1_clear wsX1_clear) := goodIn_app (goodIn_m _ [(wsX4_reach_r1, [false, false, false, false, false, false, false, false, false, false, false, false, false, false, false, false, false, false, false, false, false, true, true, true]), (wsX4_reach_r1, [false, false, false, false, false, false, false, false, false, false, false, false, true])] (gm_c mi_wsX4_reach_wsX4_reach_r1 (gm_c mi_wsX4_reach_wsX4_reach_r1 gm_n)) rfl (by decide +kernel)) ggX4_reach_X1_clear
set_option maxRecDepth 20000 in
theorem ggX4_reach_X1_take : GoodIn wsX4_reach wsX1_take := goodIn_m _ [(wsX4_reach_r2, [false, false, false, false, false, false, false, false, false, false, false, true]), (wsX4_reach_r2, [false, true]), (wsX4_reach_r1, [false, false, false, false, false, false, false, false, false, false, false, false, false, false, false, true]), (wsX4_reach_r2, [false, false, true, true]), (wsX10, [true, true, true, true])] (gm_c mi_wsX4_reach_wsX4_reach_r2 (gm_c mi_wsX4_reach_wsX4_reach_r2 (gm_c mi_wsX4_reach_wsX4_reach_r1 (gm_c mi_wsX4_reach_wsX4_reach_r2 (gm_c mi_wsX4_reach_wsX10 gm_n))))) rfl (by decide +kernel)
set_option maxRecDepth 20000 in
theorem gX4_reach_X1_take : GoodIn wsX4_reach (wsV RX4 224 RX1 yX1_take wsX1_take) := goodIn_app (goodIn_m _ [(wsX4_reach_r2, [false, false, false, false, false, false, false, false, true, true, true]), (wsX4_reach_r1, [false, false, false, false, false, false, false, false, false, false, false, false, true])] (gm_c mi_wsX4_reach_wsX4_reach_r2 (gm_c mi_wsX4_reach_wsX4_reach_r1 gm_n)) rfl (by decide +kernel)) ggX4_reach_X1_take
set_option maxRecDepth 20000 in
theorem ggX4_reach_X1_hasMajority : GoodIn wsX4_reach wsX1_hasMajority := goodIn_m _ [(wsX4_reach_r2, [false, false, false, false, false, false, false, false, false, false, false, false, false, false, false, true]), (wsX4_reach_r2, [false, false, false, true]), (wsX4_reach_r2, [false, false, true]), (wsX10, [true, true, true, true])] (gm_c mi_wsX4_reach_wsX4_reach_r2 (gm_c mi_wsX4_reach_wsX4_reach_r2 (gm_c mi_wsX4_reach_wsX4_reach_r2 (gm_c mi_wsX4_reach_wsX10 gm_n)))) rfl (by decide +kernel)
set_option maxRecDepth 20000 in
theorem gX4_reach_X1_hasMajority : GoodIn wsX4_reach (wsV RX4 227 RX1 yX1_hasMajority wsX1_hasMajority) := goodIn_app (goodIn_m _ [(wsX4_reach_r2, [false, false, false, false, false, false, false, false, false, false, false, false, true, true, true]), (wsX4_reach_r1, [false, false, false, false, false, false, false, false, false, false, false, false, true])] (gm_c mi_wsX4_reach_wsX4_reach_r2 (gm_c mi_wsX4_reach_wsX4_reach_r1 gm_n)) rfl (by decide +kernel)) ggX4_reach_X1_hasMajority
def dt_cX4_reach_0 : List (Nat × Nat × Nat × Nat) := [(0, 42, 0, 0), (1, 180, 2, 12), (4, 27, 0, 0), (5, 182, 2, 64), (8, 154, 2, 5), (11, 2, 0, 0), (12, 172, 0, 0), (13, 42, 0, 0), (14, 180, 2, 28), (17, 42, 0, 0), (18, 180, 2, 12), (21, 182, 2, 117), (24, 42, 0, 0), (25, 180, 2, 28), (28, 182, 2, 221), (31, 2, 0, 0), (32, 61, 0, 0), (33, 27, 0, 0), (34, 62, 0, 0), (35, 29, 0, 0)]
theorem da_cX4_reach_0 : fw dt_cX4_reach_0 0 cX4_reach.data.toList = true := by decide +kernel
theorem dX4_reach_0 : decode cX4_reach 0 = .ok (.aload_n 0, 1) := fo_42 (fw_get da_cX4_reach_0 0 rfl)
theorem dX4_reach_1 : decode cX4_reach 1 = .ok (.getfield 12, 3) := fo_180 (fw_get da_cX4_reach_0 1 rfl)
theorem dX4_reach_4 : decode cX4_reach 4 = .ok (.iload_n 1, 1) := fo_27 (fw_get da_cX4_reach_0 2 rfl)
theorem dX4_reach_5 : decode cX4_reach 5 = .ok (.invokevirtual 64, 3) := fo_182 (fw_get da_cX4_reach_0 3 rfl)
theorem dX4_reach_8 : decode cX4_reach 8 = .ok (.ifCond .ne 5, 3) := fo_154 (fw_get da_cX4_reach_0 4 rfl) (by decide +kernel)
theorem dX4_reach_11 : decode cX4_reach 11 = .ok (.iconst (-1), 1) := fo_2 (fw_get da_cX4_reach_0 5 rfl)
theorem dX4_reach_12 : decode cX4_reach 12 = .ok (.ireturn, 1) := fo_172 (fw_get da_cX4_reach_0 6 rfl)
theorem dX4_reach_13 : decode cX4_reach 13 = .ok (.aload_n 0, 1) := fo_42 (fw_get da_cX4_reach_0 7 rfl)
theorem dX4_reach_14 : decode cX4_reach 14 = .ok (.getfield 28, 3) := fo_180 (fw_get da_cX4_reach_0 8 rfl)
theorem dX4_reach_17 : decode cX4_reach 17 = .ok (.aload_n 0, 1) := fo_42 (fw_get da_cX4_reach_0 9 rfl)
theorem dX4_reach_18 : decode cX4_reach 18 = .ok (.getfield 12, 3) := fo_180 (fw_get da_cX4_reach_0 10 rfl)
theorem dX4_reach_21 : decode cX4_reach 21 = .ok (.invokevirtual 117, 3) := fo_182 (fw_get da_cX4_reach_0 11 rfl)
theorem dX4_reach_24 : decode cX4_reach 24 = .ok (.aload_n 0, 1) := fo_42 (fw_get da_cX4_reach_0 12 rfl)
theorem dX4_reach_25 : decode cX4_reach 25 = .ok (.getfield 28, 3) := fo_180 (fw_get da_cX4_reach_0 13 rfl)
theorem dX4_reach_28 : decode cX4_reach 28 = .ok (.invokevirtual 221, 3) := fo_182 (fw_get da_cX4_reach_0 14 rfl)
theorem dX4_reach_31 : decode cX4_reach 31 = .ok (.iconst (-1), 1) := fo_2 (fw_get da_cX4_reach_0 15 rfl)
theorem dX4_reach_32 : decode cX4_reach 32 = .ok (.istore_n 2, 1) := fo_61 (fw_get da_cX4_reach_0 16 rfl)
theorem dX4_reach_33 : decode cX4_reach 33 = .ok (.iload_n 1, 1) := fo_27 (fw_get da_cX4_reach_0 17 rfl)
theorem dX4_reach_34 : decode cX4_reach 34 = .ok (.istore_n 3, 1) := fo_62 (fw_get da_cX4_reach_0 18 rfl)
theorem dX4_reach_35 : decode cX4_reach 35 = .ok (.iload_n 3, 1) := fo_29 (fw_get da_cX4_reach_0 19 rfl)
def dt_cX4_reach_1 : List (Nat × Nat × Nat × Nat) := [(36, 42, 0, 0), (37, 180, 2, 12), (40, 180, 2, 57), (43, 162, 2, 31), (46, 42, 0, 0), (47, 180, 2, 28), (50, 29, 0, 0), (51, 182, 2, 224), (54, 42, 0, 0), (55, 180, 2, 28), (58, 182, 2, 227), (61, 153, 2, 7), (64, 29, 0, 0), (65, 4, 0, 0), (66, 96, 0, 0), (67, 61, 0, 0), (68, 132, 2, 769), (71, 167, 2, 65500), (74, 28, 0, 0), (75, 172, 0, 0)]
theorem da_cX4_reach_1 : fw dt_cX4_reach_1 0 cX4_reach.data.toList = true := by decide +kernel
theorem dX4_reach_36 : decode cX4_reach 36 = .ok (.aload_n 0, 1) := fo_42 (fw_get da_cX4_reach_1 0 rfl)
theorem dX4_reach_37 : decode cX4_reach 37 = .ok (.getfield 12, 3) := fo_180 (fw_get da_cX4_reach_1 1 rfl)
theorem dX4_reach_40 : decode cX4_reach 40 = .ok (.getfield 57, 3) := fo_180 (fw_get da_cX4_reach_1 2 rfl)
theorem dX4_reach_43 : decode cX4_reach 43 = .ok (.if_icmp .ge 31, 3) := fo_162 (fw_get da_cX4_reach_1 3 rfl) (by decide +kernel)
theorem dX4_reach_46 : decode cX4_reach 46 = .ok (.aload_n 0, 1) := fo_42 (fw_get da_cX4_reach_1 4 rfl)
theorem dX4_reach_47 : decode cX4_reach 47 = .ok (.getfield 28, 3) := fo_180 (fw_get da_cX4_reach_1 5 rfl)
theorem dX4_reach_50 : decode cX4_reach 50 = .ok (.iload_n 3, 1) := fo_29 (fw_get da_cX4_reach_1 6 rfl)
theorem dX4_reach_51 : decode cX4_reach 51 = .ok (.invokevirtual 224, 3) := fo_182 (fw_get da_cX4_reach_1 7 rfl)
theorem dX4_reach_54 : decode cX4_reach 54 = .ok (.aload_n 0, 1) := fo_42 (fw_get da_cX4_reach_1 8 rfl)
theorem dX4_reach_55 : decode cX4_reach 55 = .ok (.getfield 28, 3) := fo_180 (fw_get da_cX4_reach_1 9 rfl)
theorem dX4_reach_58 : decode cX4_reach 58 = .ok (.invokevirtual 227, 3) := fo_182 (fw_get da_cX4_reach_1 10 rfl)
theorem dX4_reach_61 : decode cX4_reach 61 = .ok (.ifCond .eq 7, 3) := fo_153 (fw_get da_cX4_reach_1 11 rfl) (by decide +kernel)
theorem dX4_reach_64 : decode cX4_reach 64 = .ok (.iload_n 3, 1) := fo_29 (fw_get da_cX4_reach_1 12 rfl)
theorem dX4_reach_65 : decode cX4_reach 65 = .ok (.iconst 1, 1) := fo_4 (fw_get da_cX4_reach_1 13 rfl)
theorem dX4_reach_66 : decode cX4_reach 66 = .ok (.iadd, 1) := fo_96 (fw_get da_cX4_reach_1 14 rfl)
theorem dX4_reach_67 : decode cX4_reach 67 = .ok (.istore_n 2, 1) := fo_61 (fw_get da_cX4_reach_1 15 rfl)
theorem dX4_reach_68 : decode cX4_reach 68 = .ok (.iinc 3 1, 3) := fo_132 (fw_get da_cX4_reach_1 16 rfl) rfl (by decide +kernel)
theorem dX4_reach_71 : decode cX4_reach 71 = .ok (.goto (-36), 3) := fo_167 (fw_get da_cX4_reach_1 17 rfl) (by decide +kernel)
theorem dX4_reach_74 : decode cX4_reach 74 = .ok (.iload_n 2, 1) := fo_28 (fw_get da_cX4_reach_1 18 rfl)
theorem dX4_reach_75 : decode cX4_reach 75 = .ok (.ireturn, 1) := fo_172 (fw_get da_cX4_reach_1 19 rfl)
theorem mi_wsX4_parted_wsX4_parted_r1 : ∀ w ∈ wsX4_parted_r1, w ∈ wsX4_parted := fun _ h => (List.mem_cons_of_mem _ (List.mem_append_left _ (List.mem_append_left _ (List.mem_append_left _ (List.mem_append_left _ h)))))
theorem mi_wsX4_parted_wsX00 : ∀ w ∈ wsX00, w ∈ wsX4_parted := fun _ h => (List.mem_cons_of_mem _ (List.mem_append_left _ (List.mem_append_right _ h)))
set_option maxRecDepth 20000 in
theorem ggX4_parted_X0_hasRange : GoodIn wsX4_parted wsX0_hasRange := goodIn_m _ [(wsX4_parted_r1, [false, false, false, false, false, false, false, false, false, false, false, true, true]), (wsX00, [true, true])] (gm_c mi_wsX4_parted_wsX4_parted_r1 (gm_c mi_wsX4_parted_wsX00 gm_n)) rfl (by decide +kernel)
set_option maxRecDepth 20000 in
theorem gX4_parted_X0_hasRange : GoodIn wsX4_parted (wsV RX4 79 RX0 yX0_hasRange wsX0_hasRange) := goodIn_app (goodIn_m _ [(wsX4_parted_r1, [false, false, false, false, false, false, false, true, true, true, true])] (gm_c mi_wsX4_parted_wsX4_parted_r1 gm_n) rfl (by decide +kernel)) ggX4_parted_X0_hasRange
theorem mi_wsX4_parted_wsX4_parted_r2 : ∀ w ∈ wsX4_parted_r2, w ∈ wsX4_parted := fun _ h => (List.mem_cons_of_mem _ (List.mem_append_left _ (List.mem_append_left _ (List.mem_append_left _ (List.mem_append_right _ h)))))
theorem mi_wsX4_parted_wsX10 : ∀ w ∈ wsX10, w ∈ wsX4_parted := fun _ h => (List.mem_cons_of_mem _ (List.mem_append_right _ h))
set_option maxRecDepth 20000 in
theorem ggX4_parted_X1_learn : GoodIn wsX4_parted wsX1_learn := goodIn_m _ [(wsX4_parted_r1, [false, false, false, false, false, false, false, false, false, false, false, false, false, false, false, false, false, true, true, true, true, true, true]), (wsX4_parted_r1, [false, false, false, false, false, false, false, false, false, false, true, false, false, false, false, false, false, false, false, false, false, false, false, true]), (wsX4_parted_r2, [true]), (wsX00, [true, true]), (wsX10, [true, true, true, true])] (gm_c mi_wsX4_parted_wsX4_parted_r1 (gm_c mi_wsX4_parted_wsX4_parted_r1 (gm_c mi_wsX4_parted_wsX4_parted_r2 (gm_c mi_wsX4_parted_wsX00 (gm_c mi_wsX4_parted_wsX10 gm_n))))) rfl (by decide +kernel)
set_option maxRecDepth 20000 in
theorem gX4_parted_X1_learn : GoodIn wsX4_parted (wsV RX4 117 RX1 yX1_learn wsX1_learn) := goodIn_app (goodIn_m _ [(wsX4_parted_r1, [false, false, false, false, false, false, false, false, false, false, false, false, false, true, true, true, true])] (gm_c mi_wsX4_parted_wsX4_parted_r1 gm_n) rfl (by decide +kernel)) ggX4_parted_X1_learn
set_option maxRecDepth 20000 in
theorem ggX4_parted_J7_fill_53178 : GoodIn wsX4_parted wsJ7_fill_53178 := goodIn_m _ [(wsX4_parted_r2, [false, false, false, false, true])] (gm_c mi_wsX4_parted_wsX4_parted_r2 gm_n) rfl (by decide +kernel)
set_option maxRecDepth 20000 in
theorem gX4_parted_J7_fill_53178 : GoodIn wsX4_parted (va_wsS RX4 231 yJ7_fill_53178 wsJ7_fill_53178) := goodIn_app (goodIn_m _ [(wsX4_parted_r2, [false, true, true, true])] (gm_c mi_wsX4_parted_wsX4_parted_r2 gm_n) rfl (by decide +kernel)) ggX4_parted_J7_fill_53178
set_option maxRecDepth 20000 in
theorem ggX4_parted_X1_clear : GoodIn wsX4_parted wsX1_clear := goodIn_m _ [(wsX4_parted_r2, [false, false, false, false, false, false, false, false, true, true, true, true, true]), (wsX4_parted_r2, [false, false, true, true, true]), (wsX10, [true, true, true, true])] (gm_c mi_wsX4_parted_wsX4_parted_r2 (gm_c mi_wsX4_parted_wsX4_parted_r2 (gm_c mi_wsX4_parted_wsX10 gm_n))) rfl (by decide +kernel)
set_option maxRecDepth 20000 in
theorem gX4_parted_X1_clear : GoodIn wsX4_parted (wsV RX4 221 RX1 yX1_clear wsX1_clear) := goodIn_app (goodIn_m _ [(wsX4_parted_r2, [false, false, false, false, false, true, true, true]), (wsX4_parted_r1, [false, false, false, false, false, false, false, false, false, false, false, false, false, false, false, false, true])] (gm_c mi_wsX4_parted_wsX4_parted_r2 (gm_c mi_wsX4_parted_wsX4_parted_r1 gm_n)) rfl (by decide +kernel)) ggX4_parted_X1_clear
set_option maxRecDepth 20000 in
theorem ggX4_parted_X1_take : GoodIn wsX4_parted wsX1_take := goodIn_m _ [(wsX4_parted_r2, [false, false, false, false, false, false, false, false, false, false, false, false, false, false, false, false, true]), (wsX4_parted_r2, [false, false, false, false, false, false, false, false, false, true]), (wsX4_parted_r1, [false, false, false, false, false, false, false, false, false, false, false, false, false, false, false, false, false, false, false, true]), (wsX4_parted_r2, [false, false, false, false, false, false, false, false, false, false, true, true]), (wsX10, [true, true, true, true])] (gm_c mi_wsX4_parted_wsX4_parted_r2 (gm_c mi_wsX4_parted_wsX4_parted_r2 (gm_c mi_wsX4_parted_wsX4_parted_r1 (gm_c mi_wsX4_parted_wsX4_parted_r2 (gm_c mi_wsX4_parted_wsX10 gm_n))))) rfl (by decide +kernel)
set_option maxRecDepth 20000 in
theorem gX4_parted_X1_take : GoodIn wsX4_parted (wsV RX4 224 RX1 yX1_take wsX1_take) := goodIn_app (goodIn_m _ [(wsX4_parted_r2, [false, false, false, false, false, false, false, false, false, false, false, false, false, true, true, true]), (wsX4_parted_r1, [false, false, false, false, false, false, false, false, false, false, false, false, false, false, false, false, true])] (gm_c mi_wsX4_parted_wsX4_parted_r2 (gm_c mi_wsX4_parted_wsX4_parted_r1 gm_n)) rfl (by decide +kernel)) ggX4_parted_X1_take
set_option maxRecDepth 20000 in
theorem ggX4_parted_X1_hasMajority : GoodIn wsX4_parted wsX1_hasMajority := goodIn_m _ [(wsX4_parted_r2, [false, false, false, false, false, false, false, false, false, false, false, false, false, false, false, false, false, false, false, false, true]), (wsX4_parted_r2, [false, false, false, false, false, false, false, false, false, false, false, true]), (wsX4_parted_r2, [false, false, false, false, false, false, false, false, false, false, true]), (wsX10, [true, true, true, true])] (gm_c mi_wsX4_parted_wsX4_parted_r2 (gm_c mi_wsX4_parted_wsX4_parted_r2 (gm_c mi_wsX4_parted_wsX4_parted_r2 (gm_c mi_wsX4_parted_wsX10 gm_n)))) rfl (by decide +kernel)
set_option maxRecDepth 20000 in
theorem gX4_parted_X1_hasMajority : GoodIn wsX4_parted (wsV RX4 227 RX1 yX1_hasMajority wsX1_hasMajority) := goodIn_app (goodIn_m _ [(wsX4_parted_r2, [false, false, false, false, false, false, false, false, false, false, false, false, false, false, false, false, false, true, true, true]), (wsX4_parted_r1, [false, false, false, false, false, false, false, false, false, false, false, false, false, false, false, false, true])] (gm_c mi_wsX4_parted_wsX4_parted_r2 (gm_c mi_wsX4_parted_wsX4_parted_r1 gm_n)) rfl (by decide +kernel)) ggX4_parted_X1_hasMajority
def dt_cX4_parted_0 : List (Nat × Nat × Nat × Nat) := [(0, 42, 0, 0), (1, 180, 2, 12), (4, 27, 0, 0), (5, 28, 0, 0), (6, 182, 2, 79), (9, 154, 2, 5), (12, 2, 0, 0), (13, 172, 0, 0), (14, 42, 0, 0), (15, 180, 2, 28), (18, 42, 0, 0), (19, 180, 2, 12), (22, 182, 2, 117), (25, 42, 0, 0), (26, 180, 2, 46), (29, 28, 0, 0), (30, 27, 0, 0), (31, 100, 0, 0), (32, 184, 2, 231), (35, 42, 0, 0)]
theorem da_cX4_parted_0 : fw dt_cX4_parted_0 0 cX4_parted.data.toList = true := by decide +kernel
theorem dX4_parted_0 : decode cX4_parted 0 = .ok (.aload_n 0, 1) := fo_42 (fw_get da_cX4_parted_0 0 rfl)
theorem dX4_parted_1 : decode cX4_parted 1 = .ok (.getfield 12, 3) := fo_180 (fw_get da_cX4_parted_0 1 rfl)
theorem dX4_parted_4 : decode cX4_parted 4 = .ok (.iload_n 1, 1) := fo_27 (fw_get da_cX4_parted_0 2 rfl)
theorem dX4_parted_5 : decode cX4_parted 5 = .ok (.iload_n 2, 1) := fo_28 (fw_get da_cX4_parted_0 3 rfl)
theorem dX4_parted_6 : decode cX4_parted 6 = .ok (.invokevirtual 79, 3) := fo_182 (fw_get da_cX4_parted_0 4 rfl)
theorem dX4_parted_9 : decode cX4_parted 9 = .ok (.ifCond .ne 5, 3) := fo_154 (fw_get da_cX4_parted_0 5 rfl) (by decide +kernel)
theorem dX4_parted_12 : decode cX4_parted 12 = .ok (.iconst (-1), 1) := fo_2 (fw_get da_cX4_parted_0 6 rfl)
theorem dX4_parted_13 : decode cX4_parted 13 = .ok (.ireturn, 1) := fo_172 (fw_get da_cX4_parted_0 7 rfl)
theorem dX4_parted_14 : decode cX4_parted 14 = .ok (.aload_n 0, 1) := fo_42 (fw_get da_cX4_parted_0 8 rfl)
theorem dX4_parted_15 : decode cX4_parted 15 = .ok (.getfield 28, 3) := fo_180 (fw_get da_cX4_parted_0 9 rfl)
theorem dX4_parted_18 : decode cX4_parted 18 = .ok (.aload_n 0, 1) := fo_42 (fw_get da_cX4_parted_0 10 rfl)
theorem dX4_parted_19 : decode cX4_parted 19 = .ok (.getfield 12, 3) := fo_180 (fw_get da_cX4_parted_0 11 rfl)
theorem dX4_parted_22 : decode cX4_parted 22 = .ok (.invokevirtual 117, 3) := fo_182 (fw_get da_cX4_parted_0 12 rfl)
theorem dX4_parted_25 : decode cX4_parted 25 = .ok (.aload_n 0, 1) := fo_42 (fw_get da_cX4_parted_0 13 rfl)
theorem dX4_parted_26 : decode cX4_parted 26 = .ok (.getfield 46, 3) := fo_180 (fw_get da_cX4_parted_0 14 rfl)
theorem dX4_parted_29 : decode cX4_parted 29 = .ok (.iload_n 2, 1) := fo_28 (fw_get da_cX4_parted_0 15 rfl)
theorem dX4_parted_30 : decode cX4_parted 30 = .ok (.iload_n 1, 1) := fo_27 (fw_get da_cX4_parted_0 16 rfl)
theorem dX4_parted_31 : decode cX4_parted 31 = .ok (.isub, 1) := fo_100 (fw_get da_cX4_parted_0 17 rfl)
theorem dX4_parted_32 : decode cX4_parted 32 = .ok (.invokestatic 231, 3) := fo_184 (fw_get da_cX4_parted_0 18 rfl)
theorem dX4_parted_35 : decode cX4_parted 35 = .ok (.aload_n 0, 1) := fo_42 (fw_get da_cX4_parted_0 19 rfl)
def dt_cX4_parted_1 : List (Nat × Nat × Nat × Nat) := [(36, 180, 2, 46), (39, 27, 0, 0), (40, 3, 0, 0), (41, 79, 0, 0), (42, 27, 0, 0), (43, 62, 0, 0), (44, 29, 0, 0), (45, 28, 0, 0), (46, 162, 2, 79), (49, 42, 0, 0), (50, 180, 2, 28), (53, 182, 2, 221), (56, 29, 0, 0), (57, 54, 1, 4), (59, 21, 1, 4), (61, 28, 0, 0), (62, 162, 2, 57), (65, 42, 0, 0), (66, 180, 2, 28), (69, 21, 1, 4)]
theorem da_cX4_parted_1 : fw dt_cX4_parted_1 0 cX4_parted.data.toList = true := by decide +kernel
theorem dX4_parted_36 : decode cX4_parted 36 = .ok (.getfield 46, 3) := fo_180 (fw_get da_cX4_parted_1 0 rfl)
theorem dX4_parted_39 : decode cX4_parted 39 = .ok (.iload_n 1, 1) := fo_27 (fw_get da_cX4_parted_1 1 rfl)
theorem dX4_parted_40 : decode cX4_parted 40 = .ok (.iconst 0, 1) := fo_3 (fw_get da_cX4_parted_1 2 rfl)
theorem dX4_parted_41 : decode cX4_parted 41 = .ok (.iastore, 1) := fo_79 (fw_get da_cX4_parted_1 3 rfl)
theorem dX4_parted_42 : decode cX4_parted 42 = .ok (.iload_n 1, 1) := fo_27 (fw_get da_cX4_parted_1 4 rfl)
theorem dX4_parted_43 : decode cX4_parted 43 = .ok (.istore_n 3, 1) := fo_62 (fw_get da_cX4_parted_1 5 rfl)
theorem dX4_parted_44 : decode cX4_parted 44 = .ok (.iload_n 3, 1) := fo_29 (fw_get da_cX4_parted_1 6 rfl)
theorem dX4_parted_45 : decode cX4_parted 45 = .ok (.iload_n 2, 1) := fo_28 (fw_get da_cX4_parted_1 7 rfl)
theorem dX4_parted_46 : decode cX4_parted 46 = .ok (.if_icmp .ge 79, 3) := fo_162 (fw_get da_cX4_parted_1 8 rfl) (by decide +kernel)
theorem dX4_parted_49 : decode cX4_parted 49 = .ok (.aload_n 0, 1) := fo_42 (fw_get da_cX4_parted_1 9 rfl)
theorem dX4_parted_50 : decode cX4_parted 50 = .ok (.getfield 28, 3) := fo_180 (fw_get da_cX4_parted_1 10 rfl)
theorem dX4_parted_53 : decode cX4_parted 53 = .ok (.invokevirtual 221, 3) := fo_182 (fw_get da_cX4_parted_1 11 rfl)
theorem dX4_parted_56 : decode cX4_parted 56 = .ok (.iload_n 3, 1) := fo_29 (fw_get da_cX4_parted_1 12 rfl)
theorem dX4_parted_57 : decode cX4_parted 57 = .ok (.istore 4, 2) := fo_54 (fw_get da_cX4_parted_1 13 rfl)
theorem dX4_parted_59 : decode cX4_parted 59 = .ok (.iload 4, 2) := fo_21 (fw_get da_cX4_parted_1 14 rfl)
theorem dX4_parted_61 : decode cX4_parted 61 = .ok (.iload_n 2, 1) := fo_28 (fw_get da_cX4_parted_1 15 rfl)
theorem dX4_parted_62 : decode cX4_parted 62 = .ok (.if_icmp .ge 57, 3) := fo_162 (fw_get da_cX4_parted_1 16 rfl) (by decide +kernel)
theorem dX4_parted_65 : decode cX4_parted 65 = .ok (.aload_n 0, 1) := fo_42 (fw_get da_cX4_parted_1 17 rfl)
theorem dX4_parted_66 : decode cX4_parted 66 = .ok (.getfield 28, 3) := fo_180 (fw_get da_cX4_parted_1 18 rfl)
theorem dX4_parted_69 : decode cX4_parted 69 = .ok (.iload 4, 2) := fo_21 (fw_get da_cX4_parted_1 19 rfl)
def dt_cX4_parted_2 : List (Nat × Nat × Nat × Nat) := [(71, 182, 2, 224), (74, 42, 0, 0), (75, 180, 2, 28), (78, 182, 2, 227), (81, 153, 2, 32), (84, 42, 0, 0), (85, 180, 2, 46), (88, 21, 1, 4), (90, 4, 0, 0), (91, 96, 0, 0), (92, 42, 0, 0), (93, 180, 2, 46), (96, 21, 1, 4), (98, 4, 0, 0), (99, 96, 0, 0), (100, 46, 0, 0), (101, 42, 0, 0), (102, 180, 2, 46), (105, 29, 0, 0), (106, 46, 0, 0)]
theorem da_cX4_parted_2 : fw dt_cX4_parted_2 0 cX4_parted.data.toList = true := by decide +kernel
theorem dX4_parted_71 : decode cX4_parted 71 = .ok (.invokevirtual 224, 3) := fo_182 (fw_get da_cX4_parted_2 0 rfl)
theorem dX4_parted_74 : decode cX4_parted 74 = .ok (.aload_n 0, 1) := fo_42 (fw_get da_cX4_parted_2 1 rfl)
theorem dX4_parted_75 : decode cX4_parted 75 = .ok (.getfield 28, 3) := fo_180 (fw_get da_cX4_parted_2 2 rfl)
theorem dX4_parted_78 : decode cX4_parted 78 = .ok (.invokevirtual 227, 3) := fo_182 (fw_get da_cX4_parted_2 3 rfl)
theorem dX4_parted_81 : decode cX4_parted 81 = .ok (.ifCond .eq 32, 3) := fo_153 (fw_get da_cX4_parted_2 4 rfl) (by decide +kernel)
theorem dX4_parted_84 : decode cX4_parted 84 = .ok (.aload_n 0, 1) := fo_42 (fw_get da_cX4_parted_2 5 rfl)
theorem dX4_parted_85 : decode cX4_parted 85 = .ok (.getfield 46, 3) := fo_180 (fw_get da_cX4_parted_2 6 rfl)
theorem dX4_parted_88 : decode cX4_parted 88 = .ok (.iload 4, 2) := fo_21 (fw_get da_cX4_parted_2 7 rfl)
theorem dX4_parted_90 : decode cX4_parted 90 = .ok (.iconst 1, 1) := fo_4 (fw_get da_cX4_parted_2 8 rfl)
theorem dX4_parted_91 : decode cX4_parted 91 = .ok (.iadd, 1) := fo_96 (fw_get da_cX4_parted_2 9 rfl)
theorem dX4_parted_92 : decode cX4_parted 92 = .ok (.aload_n 0, 1) := fo_42 (fw_get da_cX4_parted_2 10 rfl)
theorem dX4_parted_93 : decode cX4_parted 93 = .ok (.getfield 46, 3) := fo_180 (fw_get da_cX4_parted_2 11 rfl)
theorem dX4_parted_96 : decode cX4_parted 96 = .ok (.iload 4, 2) := fo_21 (fw_get da_cX4_parted_2 12 rfl)
theorem dX4_parted_98 : decode cX4_parted 98 = .ok (.iconst 1, 1) := fo_4 (fw_get da_cX4_parted_2 13 rfl)
theorem dX4_parted_99 : decode cX4_parted 99 = .ok (.iadd, 1) := fo_96 (fw_get da_cX4_parted_2 14 rfl)
theorem dX4_parted_100 : decode cX4_parted 100 = .ok (.iaload, 1) := fo_46 (fw_get da_cX4_parted_2 15 rfl)
theorem dX4_parted_101 : decode cX4_parted 101 = .ok (.aload_n 0, 1) := fo_42 (fw_get da_cX4_parted_2 16 rfl)
theorem dX4_parted_102 : decode cX4_parted 102 = .ok (.getfield 46, 3) := fo_180 (fw_get da_cX4_parted_2 17 rfl)
theorem dX4_parted_105 : decode cX4_parted 105 = .ok (.iload_n 3, 1) := fo_29 (fw_get da_cX4_parted_2 18 rfl)
theorem dX4_parted_106 : decode cX4_parted 106 = .ok (.iaload, 1) := fo_46 (fw_get da_cX4_parted_2 19 rfl)
def dt_cX4_parted_3 : List (Nat × Nat × Nat × Nat) := [(107, 4, 0, 0), (108, 96, 0, 0), (109, 184, 2, 91), (112, 79, 0, 0), (113, 132, 2, 1025), (116, 167, 2, 65479), (119, 132, 2, 769), (122, 167, 2, 65458), (125, 42, 0, 0), (126, 180, 2, 46), (129, 28, 0, 0), (130, 46, 0, 0), (131, 172, 0, 0)]
theorem da_cX4_parted_3 : fw dt_cX4_parted_3 0 cX4_parted.data.toList = true := by decide +kernel
theorem dX4_parted_107 : decode cX4_parted 107 = .ok (.iconst 1, 1) := fo_4 (fw_get da_cX4_parted_3 0 rfl)
theorem dX4_parted_108 : decode cX4_parted 108 = .ok (.iadd, 1) := fo_96 (fw_get da_cX4_parted_3 1 rfl)
theorem dX4_parted_109 : decode cX4_parted 109 = .ok (.invokestatic 91, 3) := fo_184 (fw_get da_cX4_parted_3 2 rfl)
theorem dX4_parted_112 : decode cX4_parted 112 = .ok (.iastore, 1) := fo_79 (fw_get da_cX4_parted_3 3 rfl)
theorem dX4_parted_113 : decode cX4_parted 113 = .ok (.iinc 4 1, 3) := fo_132 (fw_get da_cX4_parted_3 4 rfl) rfl (by decide +kernel)
theorem dX4_parted_116 : decode cX4_parted 116 = .ok (.goto (-57), 3) := fo_167 (fw_get da_cX4_parted_3 5 rfl) (by decide +kernel)
theorem dX4_parted_119 : decode cX4_parted 119 = .ok (.iinc 3 1, 3) := fo_132 (fw_get da_cX4_parted_3 6 rfl) rfl (by decide +kernel)
theorem dX4_parted_122 : decode cX4_parted 122 = .ok (.goto (-78), 3) := fo_167 (fw_get da_cX4_parted_3 7 rfl) (by decide +kernel)
theorem dX4_parted_125 : decode cX4_parted 125 = .ok (.aload_n 0, 1) := fo_42 (fw_get da_cX4_parted_3 8 rfl)
theorem dX4_parted_126 : decode cX4_parted 126 = .ok (.getfield 46, 3) := fo_180 (fw_get da_cX4_parted_3 9 rfl)
theorem dX4_parted_129 : decode cX4_parted 129 = .ok (.iload_n 2, 1) := fo_28 (fw_get da_cX4_parted_3 10 rfl)
theorem dX4_parted_130 : decode cX4_parted 130 = .ok (.iaload, 1) := fo_46 (fw_get da_cX4_parted_3 11 rfl)
theorem dX4_parted_131 : decode cX4_parted 131 = .ok (.ireturn, 1) := fo_172 (fw_get da_cX4_parted_3 12 rfl)
set_option maxRecDepth 20000 in
theorem ggX4_cut_X0_hasRange : GoodIn wsX4_cut wsX0_hasRange := goodIn_r _ [7, 8, 31, 32] rfl (by decide +kernel)
set_option maxRecDepth 20000 in
theorem gX4_cut_X0_hasRange : GoodIn wsX4_cut (wsV RX4 79 RX0 yX0_hasRange wsX0_hasRange) := goodIn_app (goodIn_r _ [3, 4, 5, 6] rfl (by decide +kernel)) ggX4_cut_X0_hasRange
set_option maxRecDepth 20000 in
theorem ggX4_cut_X0_leader : GoodIn wsX4_cut wsX0_leader := goodIn_r _ [12, 13, 14, 15, 16, 17, 6, 18, 19, 20, 21, 31, 32] rfl (by decide +kernel)
set_option maxRecDepth 20000 in
theorem gX4_cut_X0_leader : GoodIn wsX4_cut (wsV RX4 207 RX0 yX0_leader wsX0_leader) := goodIn_app (goodIn_r _ [9, 10, 11, 6] rfl (by decide +kernel)) ggX4_cut_X0_leader
def dt_cX4_cut_0 : List (Nat × Nat × Nat × Nat) := [(0, 42, 0, 0), (1, 180, 2, 12), (4, 27, 0, 0), (5, 28, 0, 0), (6, 182, 2, 79), (9, 154, 2, 5), (12, 2, 0, 0), (13, 172, 0, 0), (14, 27, 0, 0), (15, 4, 0, 0), (16, 96, 0, 0), (17, 62, 0, 0), (18, 29, 0, 0), (19, 28, 0, 0), (20, 162, 2, 54), (23, 42, 0, 0), (24, 180, 2, 12), (27, 27, 0, 0), (28, 29, 0, 0), (29, 182, 2, 207)]
theorem da_cX4_cut_0 : fw dt_cX4_cut_0 0 cX4_cut.data.toList = true := by decide +kernel
theorem dX4_cut_0 : decode cX4_cut 0 = .ok (.aload_n 0, 1) := fo_42 (fw_get da_cX4_cut_0 0 rfl)
theorem dX4_cut_1 : decode cX4_cut 1 = .ok (.getfield 12, 3) := fo_180 (fw_get da_cX4_cut_0 1 rfl)
theorem dX4_cut_4 : decode cX4_cut 4 = .ok (.iload_n 1, 1) := fo_27 (fw_get da_cX4_cut_0 2 rfl)
theorem dX4_cut_5 : decode cX4_cut 5 = .ok (.iload_n 2, 1) := fo_28 (fw_get da_cX4_cut_0 3 rfl)
theorem dX4_cut_6 : decode cX4_cut 6 = .ok (.invokevirtual 79, 3) := fo_182 (fw_get da_cX4_cut_0 4 rfl)
theorem dX4_cut_9 : decode cX4_cut 9 = .ok (.ifCond .ne 5, 3) := fo_154 (fw_get da_cX4_cut_0 5 rfl) (by decide +kernel)
theorem dX4_cut_12 : decode cX4_cut 12 = .ok (.iconst (-1), 1) := fo_2 (fw_get da_cX4_cut_0 6 rfl)
theorem dX4_cut_13 : decode cX4_cut 13 = .ok (.ireturn, 1) := fo_172 (fw_get da_cX4_cut_0 7 rfl)
theorem dX4_cut_14 : decode cX4_cut 14 = .ok (.iload_n 1, 1) := fo_27 (fw_get da_cX4_cut_0 8 rfl)
theorem dX4_cut_15 : decode cX4_cut 15 = .ok (.iconst 1, 1) := fo_4 (fw_get da_cX4_cut_0 9 rfl)
theorem dX4_cut_16 : decode cX4_cut 16 = .ok (.iadd, 1) := fo_96 (fw_get da_cX4_cut_0 10 rfl)
theorem dX4_cut_17 : decode cX4_cut 17 = .ok (.istore_n 3, 1) := fo_62 (fw_get da_cX4_cut_0 11 rfl)
theorem dX4_cut_18 : decode cX4_cut 18 = .ok (.iload_n 3, 1) := fo_29 (fw_get da_cX4_cut_0 12 rfl)
theorem dX4_cut_19 : decode cX4_cut 19 = .ok (.iload_n 2, 1) := fo_28 (fw_get da_cX4_cut_0 13 rfl)
theorem dX4_cut_20 : decode cX4_cut 20 = .ok (.if_icmp .ge 54, 3) := fo_162 (fw_get da_cX4_cut_0 14 rfl) (by decide +kernel)
theorem dX4_cut_23 : decode cX4_cut 23 = .ok (.aload_n 0, 1) := fo_42 (fw_get da_cX4_cut_0 15 rfl)
theorem dX4_cut_24 : decode cX4_cut 24 = .ok (.getfield 12, 3) := fo_180 (fw_get da_cX4_cut_0 16 rfl)
theorem dX4_cut_27 : decode cX4_cut 27 = .ok (.iload_n 1, 1) := fo_27 (fw_get da_cX4_cut_0 17 rfl)
theorem dX4_cut_28 : decode cX4_cut 28 = .ok (.iload_n 3, 1) := fo_29 (fw_get da_cX4_cut_0 18 rfl)
theorem dX4_cut_29 : decode cX4_cut 29 = .ok (.invokevirtual 207, 3) := fo_182 (fw_get da_cX4_cut_0 19 rfl)
def dt_cX4_cut_1 : List (Nat × Nat × Nat × Nat) := [(32, 54, 1, 4), (34, 42, 0, 0), (35, 180, 2, 12), (38, 29, 0, 0), (39, 28, 0, 0), (40, 182, 2, 207), (43, 54, 1, 5), (45, 21, 1, 4), (47, 18, 1, 102), (49, 159, 2, 19), (52, 21, 1, 5), (54, 18, 1, 102), (56, 159, 2, 12), (59, 21, 1, 4), (61, 21, 1, 5), (63, 159, 2, 5), (66, 29, 0, 0), (67, 172, 0, 0), (68, 132, 2, 769), (71, 167, 2, 65483)]
theorem da_cX4_cut_1 : fw dt_cX4_cut_1 0 cX4_cut.data.toList = true := by decide +kernel
theorem dX4_cut_32 : decode cX4_cut 32 = .ok (.istore 4, 2) := fo_54 (fw_get da_cX4_cut_1 0 rfl)
theorem dX4_cut_34 : decode cX4_cut 34 = .ok (.aload_n 0, 1) := fo_42 (fw_get da_cX4_cut_1 1 rfl)
theorem dX4_cut_35 : decode cX4_cut 35 = .ok (.getfield 12, 3) := fo_180 (fw_get da_cX4_cut_1 2 rfl)
theorem dX4_cut_38 : decode cX4_cut 38 = .ok (.iload_n 3, 1) := fo_29 (fw_get da_cX4_cut_1 3 rfl)
theorem dX4_cut_39 : decode cX4_cut 39 = .ok (.iload_n 2, 1) := fo_28 (fw_get da_cX4_cut_1 4 rfl)
theorem dX4_cut_40 : decode cX4_cut 40 = .ok (.invokevirtual 207, 3) := fo_182 (fw_get da_cX4_cut_1 5 rfl)
theorem dX4_cut_43 : decode cX4_cut 43 = .ok (.istore 5, 2) := fo_54 (fw_get da_cX4_cut_1 6 rfl)
theorem dX4_cut_45 : decode cX4_cut 45 = .ok (.iload 4, 2) := fo_21 (fw_get da_cX4_cut_1 7 rfl)
theorem dX4_cut_47 : decode cX4_cut 47 = .ok (.ldc 102, 2) := fo_18 (fw_get da_cX4_cut_1 8 rfl)
theorem dX4_cut_49 : decode cX4_cut 49 = .ok (.if_icmp .eq 19, 3) := fo_159 (fw_get da_cX4_cut_1 9 rfl) (by decide +kernel)
theorem dX4_cut_52 : decode cX4_cut 52 = .ok (.iload 5, 2) := fo_21 (fw_get da_cX4_cut_1 10 rfl)
theorem dX4_cut_54 : decode cX4_cut 54 = .ok (.ldc 102, 2) := fo_18 (fw_get da_cX4_cut_1 11 rfl)
theorem dX4_cut_56 : decode cX4_cut 56 = .ok (.if_icmp .eq 12, 3) := fo_159 (fw_get da_cX4_cut_1 12 rfl) (by decide +kernel)
theorem dX4_cut_59 : decode cX4_cut 59 = .ok (.iload 4, 2) := fo_21 (fw_get da_cX4_cut_1 13 rfl)
theorem dX4_cut_61 : decode cX4_cut 61 = .ok (.iload 5, 2) := fo_21 (fw_get da_cX4_cut_1 14 rfl)
theorem dX4_cut_63 : decode cX4_cut 63 = .ok (.if_icmp .eq 5, 3) := fo_159 (fw_get da_cX4_cut_1 15 rfl) (by decide +kernel)
theorem dX4_cut_66 : decode cX4_cut 66 = .ok (.iload_n 3, 1) := fo_29 (fw_get da_cX4_cut_1 16 rfl)
theorem dX4_cut_67 : decode cX4_cut 67 = .ok (.ireturn, 1) := fo_172 (fw_get da_cX4_cut_1 17 rfl)
theorem dX4_cut_68 : decode cX4_cut 68 = .ok (.iinc 3 1, 3) := fo_132 (fw_get da_cX4_cut_1 18 rfl) rfl (by decide +kernel)
theorem dX4_cut_71 : decode cX4_cut 71 = .ok (.goto (-53), 3) := fo_167 (fw_get da_cX4_cut_1 19 rfl) (by decide +kernel)
def dt_cX4_cut_2 : List (Nat × Nat × Nat × Nat) := [(74, 2, 0, 0), (75, 172, 0, 0)]
theorem da_cX4_cut_2 : fw dt_cX4_cut_2 0 cX4_cut.data.toList = true := by decide +kernel
theorem dX4_cut_74 : decode cX4_cut 74 = .ok (.iconst (-1), 1) := fo_2 (fw_get da_cX4_cut_2 0 rfl)
theorem dX4_cut_75 : decode cX4_cut 75 = .ok (.ireturn, 1) := fo_172 (fw_get da_cX4_cut_2 1 rfl)
theorem mi_wsX4_majorities_wsX4_majorities_r1 : ∀ w ∈ wsX4_majorities_r1, w ∈ wsX4_majorities := fun _ h => (List.mem_cons_of_mem _ (List.mem_append_left _ (List.mem_append_left _ (List.mem_append_left _ (List.mem_append_left _ h)))))
theorem mi_wsX4_majorities_wsX00 : ∀ w ∈ wsX00, w ∈ wsX4_majorities := fun _ h => (List.mem_cons_of_mem _ (List.mem_append_left _ (List.mem_append_right _ h)))
theorem mi_wsX4_majorities_wsX10 : ∀ w ∈ wsX10, w ∈ wsX4_majorities := fun _ h => (List.mem_cons_of_mem _ (List.mem_append_right _ h))
set_option maxRecDepth 20000 in
theorem ggX4_majorities_X1_learn : GoodIn wsX4_majorities wsX1_learn := goodIn_m _ [(wsX4_majorities_r1, [false, false, false, false, false, false, false, true, true, true, true, true, true, true, true, true]), (wsX00, [true, true]), (wsX10, [true, true, true, true])] (gm_c mi_wsX4_majorities_wsX4_majorities_r1 (gm_c mi_wsX4_majorities_wsX00 (gm_c mi_wsX4_majorities_wsX10 gm_n))) rfl (by decide +kernel)
set_option maxRecDepth 20000 in
theorem gX4_majorities_X1_learn : GoodIn wsX4_majorities (wsV RX4 117 RX1 yX1_learn wsX1_learn) := goodIn_app (goodIn_m _ [(wsX4_majorities_r1, [false, false, false, true, true, true, true])] (gm_c mi_wsX4_majorities_wsX4_majorities_r1 gm_n) rfl (by decide +kernel)) ggX4_majorities_X1_learn
theorem mi_wsX4_majorities_wsX4_majorities_r2 : ∀ w ∈ wsX4_majorities_r2, w ∈ wsX4_majorities := fun _ h => (List.mem_cons_of_mem _ (List.mem_append_left _ (List.mem_append_left _ (List.mem_append_left _ (List.mem_append_right _ h)))))
set_option maxRecDepth 20000 in
theorem ggX4_majorities_X1_clear : GoodIn wsX4_majorities wsX1_clear := goodIn_m _ [(wsX4_majorities_r1, [false, false, false, false, false, false, false, false, false, false, false, false, false, false, false, false, false, false, false, true, true, true, true, true]), (wsX4_majorities_r2, [true, true, true]), (wsX10, [true, true, true, true])] (gm_c mi_wsX4_majorities_wsX4_majorities_r1 (gm_c mi_wsX4_majorities_wsX4_majorities_r2 (gm_c mi_wsX4_majorities_wsX10 gm_n))) rfl (by decide +kernel)
set_option maxRecDepth 20000 in
theorem gX4_majorities_X1_clear : GoodIn wsX4_majorities (wsV RX4 221 RX1 yX1_clear wsX1_clear) := goodIn_app (goodIn_m _ [(wsX4_majorities_r1, [false, false, false, false, false, false, false, false, false, false, false, false, false, false, false, false, true, true, true]), (wsX4_majorities_r1, [false, false, false, false, false, false, true])] (gm_c mi_wsX4_majorities_wsX4_majorities_r1 (gm_c mi_wsX4_majorities_wsX4_majorities_r1 gm_n)) rfl (by decide +kernel)) ggX4_majorities_X1_clear
set_option maxRecDepth 20000 in
theorem ggX4_majorities_X1_take : GoodIn wsX4_majorities wsX1_take := goodIn_m _ [(wsX4_majorities_r2, [false, false, false, false, false, false, true]), (wsX4_majorities_r1, [false, false, false, false, false, false, false, false, false, false, false, false, false, false, false, false, false, false, false, false, true]), (wsX4_majorities_r1, [false, false, false, false, false, false, false, false, false, true, false, false, false, false, false, false, false, false, false, false, false, true, true]), (wsX10, [true, true, true, true])] (gm_c mi_wsX4_majorities_wsX4_majorities_r2 (gm_c mi_wsX4_majorities_wsX4_majorities_r1 (gm_c mi_wsX4_majorities_wsX4_majorities_r1 (gm_c mi_wsX4_majorities_wsX10 gm_n)))) rfl (by decide +kernel)
set_option maxRecDepth 20000 in
theorem gX4_majorities_X1_take : GoodIn wsX4_majorities (wsV RX4 224 RX1 yX1_take wsX1_take) := goodIn_app (goodIn_m _ [(wsX4_majorities_r2, [false, false, false, true, true, true]), (wsX4_majorities_r1, [false, false, false, false, false, false, true])] (gm_c mi_wsX4_majorities_wsX4_majorities_r2 (gm_c mi_wsX4_majorities_wsX4_majorities_r1 gm_n)) rfl (by decide +kernel)) ggX4_majorities_X1_take
set_option maxRecDepth 20000 in
theorem ggX4_majorities_X1_hasMajority : GoodIn wsX4_majorities wsX1_hasMajority := goodIn_m _ [(wsX4_majorities_r2, [false, false, false, false, false, false, false, false, false, false, true]), (wsX4_majorities_r1, [false, false, false, false, false, false, false, false, false, false, false, false, false, false, false, false, false, false, false, false, false, false, true]), (wsX4_majorities_r1, [false, false, false, false, false, false, false, false, false, false, false, false, false, false, false, false, false, false, false, false, false, true]), (wsX10, [true, true, true, true])] (gm_c mi_wsX4_majorities_wsX4_majorities_r2 (gm_c mi_wsX4_majorities_wsX4_majorities_r1 (gm_c mi_wsX4_majorities_wsX4_majorities_r1 (gm_c mi_wsX4_majorities_wsX10 gm_n)))) rfl (by decide +kernel)
set_option maxRecDepth 20000 in
theorem gX4_majorities_X1_hasMajority : GoodIn wsX4_majorities (wsV RX4 227 RX1 yX1_hasMajority wsX1_hasMajority) := goodIn_app (goodIn_m _ [(wsX4_majorities_r2, [false, false, false, false, false, false, false, true, true, true]), (wsX4_majorities_r1, [false, false, false, false, false, false, true])] (gm_c mi_wsX4_majorities_wsX4_majorities_r2 (gm_c mi_wsX4_majorities_wsX4_majorities_r1 gm_n)) rfl (by decide +kernel)) ggX4_majorities_X1_hasMajority
def dt_cX4_majorities_0 : List (Nat × Nat × Nat × Nat) := [(0, 42, 0, 0), (1, 180, 2, 28), (4, 42, 0, 0), (5, 180, 2, 12), (8, 182, 2, 117), (11, 3, 0, 0), (12, 60, 0, 0), (13, 3, 0, 0), (14, 61, 0, 0), (15, 28, 0, 0), (16, 42, 0, 0), (17, 180, 2, 12), (20, 180, 2, 57), (23, 162, 2, 56), (26, 42, 0, 0), (27, 180, 2, 28), (30, 182, 2, 221), (33, 28, 0, 0), (34, 62, 0, 0), (35, 29, 0, 0)]
theorem da_cX4_majorities_0 : fw dt_cX4_majorities_0 0 cX4_majorities.data.toList = true := by decide +kernel
theorem dX4_majorities_0 : decode cX4_majorities 0 = .ok (.aload_n 0, 1) := fo_42 (fw_get da_cX4_majorities_0 0 rfl)
theorem dX4_majorities_1 : decode cX4_majorities 1 = .ok (.getfield 28, 3) := fo_180 (fw_get da_cX4_majorities_0 1 rfl)
theorem dX4_majorities_4 : decode cX4_majorities 4 = .ok (.aload_n 0, 1) := fo_42 (fw_get da_cX4_majorities_0 2 rfl)
theorem dX4_majorities_5 : decode cX4_majorities 5 = .ok (.getfield 12, 3) := fo_180 (fw_get da_cX4_majorities_0 3 rfl)
theorem dX4_majorities_8 : decode cX4_majorities 8 = .ok (.invokevirtual 117, 3) := fo_182 (fw_get da_cX4_majorities_0 4 rfl)
theorem dX4_majorities_11 : decode cX4_majorities 11 = .ok (.iconst 0, 1) := fo_3 (fw_get da_cX4_majorities_0 5 rfl)
theorem dX4_majorities_12 : decode cX4_majorities 12 = .ok (.istore_n 1, 1) := fo_60 (fw_get da_cX4_majorities_0 6 rfl)
theorem dX4_majorities_13 : decode cX4_majorities 13 = .ok (.iconst 0, 1) := fo_3 (fw_get da_cX4_majorities_0 7 rfl)
theorem dX4_majorities_14 : decode cX4_majorities 14 = .ok (.istore_n 2, 1) := fo_61 (fw_get da_cX4_majorities_0 8 rfl)
theorem dX4_majorities_15 : decode cX4_majorities 15 = .ok (.iload_n 2, 1) := fo_28 (fw_get da_cX4_majorities_0 9 rfl)
theorem dX4_majorities_16 : decode cX4_majorities 16 = .ok (.aload_n 0, 1) := fo_42 (fw_get da_cX4_majorities_0 10 rfl)
theorem dX4_majorities_17 : decode cX4_majorities 17 = .ok (.getfield 12, 3) := fo_180 (fw_get da_cX4_majorities_0 11 rfl)
theorem dX4_majorities_20 : decode cX4_majorities 20 = .ok (.getfield 57, 3) := fo_180 (fw_get da_cX4_majorities_0 12 rfl)
theorem dX4_majorities_23 : decode cX4_majorities 23 = .ok (.if_icmp .ge 56, 3) := fo_162 (fw_get da_cX4_majorities_0 13 rfl) (by decide +kernel)
theorem dX4_majorities_26 : decode cX4_majorities 26 = .ok (.aload_n 0, 1) := fo_42 (fw_get da_cX4_majorities_0 14 rfl)
theorem dX4_majorities_27 : decode cX4_majorities 27 = .ok (.getfield 28, 3) := fo_180 (fw_get da_cX4_majorities_0 15 rfl)
theorem dX4_majorities_30 : decode cX4_majorities 30 = .ok (.invokevirtual 221, 3) := fo_182 (fw_get da_cX4_majorities_0 16 rfl)
theorem dX4_majorities_33 : decode cX4_majorities 33 = .ok (.iload_n 2, 1) := fo_28 (fw_get da_cX4_majorities_0 17 rfl)
theorem dX4_majorities_34 : decode cX4_majorities 34 = .ok (.istore_n 3, 1) := fo_62 (fw_get da_cX4_majorities_0 18 rfl)
theorem dX4_majorities_35 : decode cX4_majorities 35 = .ok (.iload_n 3, 1) := fo_29 (fw_get da_cX4_majorities_0 19 rfl)
def dt_cX4_majorities_1 : List (Nat × Nat × Nat × Nat) := [(36, 42, 0, 0), (37, 180, 2, 12), (40, 180, 2, 57), (43, 162, 2, 30), (46, 42, 0, 0), (47, 180, 2, 28), (50, 29, 0, 0), (51, 182, 2, 224), (54, 42, 0, 0), (55, 180, 2, 28), (58, 182, 2, 227), (61, 153, 2, 6), (64, 132, 2, 257), (67, 132, 2, 769), (70, 167, 2, 65501), (73, 132, 2, 513), (76, 167, 2, 65475), (79, 27, 0, 0), (80, 172, 0, 0)]
theorem da_cX4_majorities_1 : fw dt_cX4_majorities_1 0 cX4_majorities.data.toList = true := by decide +kernel
theorem dX4_majorities_36 : decode cX4_majorities 36 = .ok (.aload_n 0, 1) := fo_42 (fw_get da_cX4_majorities_1 0 rfl)
theorem dX4_majorities_37 : decode cX4_majorities 37 = .ok (.getfield 12, 3) := fo_180 (fw_get da_cX4_majorities_1 1 rfl)
theorem dX4_majorities_40 : decode cX4_majorities 40 = .ok (.getfield 57, 3) := fo_180 (fw_get da_cX4_majorities_1 2 rfl)
theorem dX4_majorities_43 : decode cX4_majorities 43 = .ok (.if_icmp .ge 30, 3) := fo_162 (fw_get da_cX4_majorities_1 3 rfl) (by decide +kernel)
theorem dX4_majorities_46 : decode cX4_majorities 46 = .ok (.aload_n 0, 1) := fo_42 (fw_get da_cX4_majorities_1 4 rfl)
theorem dX4_majorities_47 : decode cX4_majorities 47 = .ok (.getfield 28, 3) := fo_180 (fw_get da_cX4_majorities_1 5 rfl)
theorem dX4_majorities_50 : decode cX4_majorities 50 = .ok (.iload_n 3, 1) := fo_29 (fw_get da_cX4_majorities_1 6 rfl)
theorem dX4_majorities_51 : decode cX4_majorities 51 = .ok (.invokevirtual 224, 3) := fo_182 (fw_get da_cX4_majorities_1 7 rfl)
theorem dX4_majorities_54 : decode cX4_majorities 54 = .ok (.aload_n 0, 1) := fo_42 (fw_get da_cX4_majorities_1 8 rfl)
theorem dX4_majorities_55 : decode cX4_majorities 55 = .ok (.getfield 28, 3) := fo_180 (fw_get da_cX4_majorities_1 9 rfl)
theorem dX4_majorities_58 : decode cX4_majorities 58 = .ok (.invokevirtual 227, 3) := fo_182 (fw_get da_cX4_majorities_1 10 rfl)
theorem dX4_majorities_61 : decode cX4_majorities 61 = .ok (.ifCond .eq 6, 3) := fo_153 (fw_get da_cX4_majorities_1 11 rfl) (by decide +kernel)
theorem dX4_majorities_64 : decode cX4_majorities 64 = .ok (.iinc 1 1, 3) := fo_132 (fw_get da_cX4_majorities_1 12 rfl) rfl (by decide +kernel)
theorem dX4_majorities_67 : decode cX4_majorities 67 = .ok (.iinc 3 1, 3) := fo_132 (fw_get da_cX4_majorities_1 13 rfl) rfl (by decide +kernel)
theorem dX4_majorities_70 : decode cX4_majorities 70 = .ok (.goto (-35), 3) := fo_167 (fw_get da_cX4_majorities_1 14 rfl) (by decide +kernel)
theorem dX4_majorities_73 : decode cX4_majorities 73 = .ok (.iinc 2 1, 3) := fo_132 (fw_get da_cX4_majorities_1 15 rfl) rfl (by decide +kernel)
theorem dX4_majorities_76 : decode cX4_majorities 76 = .ok (.goto (-61), 3) := fo_167 (fw_get da_cX4_majorities_1 16 rfl) (by decide +kernel)
theorem dX4_majorities_79 : decode cX4_majorities 79 = .ok (.iload_n 1, 1) := fo_27 (fw_get da_cX4_majorities_1 17 rfl)
theorem dX4_majorities_80 : decode cX4_majorities 80 = .ok (.ireturn, 1) := fo_172 (fw_get da_cX4_majorities_1 18 rfl)
theorem mi_wsX4_windows_wsX4_windows_r1 : ∀ w ∈ wsX4_windows_r1, w ∈ wsX4_windows := fun _ h => (List.mem_cons_of_mem _ (List.mem_append_left _ (List.mem_append_left _ (List.mem_append_left _ (List.mem_append_left _ h)))))
set_option maxRecDepth 20000 in
theorem ggX4_windows_X4_isShare : GoodIn wsX4_windows wsX4_isShare := goodIn_m _ [(wsX4_windows_r1, [false, false, false, false, false, false, false, false, true])] (gm_c mi_wsX4_windows_wsX4_windows_r1 gm_n) rfl (by decide +kernel)
set_option maxRecDepth 20000 in
theorem gX4_windows_X4_isShare : GoodIn wsX4_windows (va_wsS RX4 186 yX4_isShare wsX4_isShare) := goodIn_app (goodIn_m _ [(wsX4_windows_r1, [false, false, false, false, false, true, true, true])] (gm_c mi_wsX4_windows_wsX4_windows_r1 gm_n) rfl (by decide +kernel)) ggX4_windows_X4_isShare
theorem mi_wsX4_windows_wsX4_windows_r2 : ∀ w ∈ wsX4_windows_r2, w ∈ wsX4_windows := fun _ h => (List.mem_cons_of_mem _ (List.mem_append_left _ (List.mem_append_left _ (List.mem_append_left _ (List.mem_append_right _ (List.mem_append_left _ h))))))
theorem mi_wsX4_windows_wsX4_windows_r3 : ∀ w ∈ wsX4_windows_r3, w ∈ wsX4_windows := fun _ h => (List.mem_cons_of_mem _ (List.mem_append_left _ (List.mem_append_left _ (List.mem_append_left _ (List.mem_append_right _ (List.mem_append_right _ h))))))
theorem mi_wsX4_windows_wsX40 : ∀ w ∈ wsX40, w ∈ wsX4_windows := fun _ h => (List.mem_cons_of_mem _ (List.mem_append_left _ (List.mem_append_left _ (List.mem_append_right _ h))))
theorem mi_wsX4_windows_wsX00 : ∀ w ∈ wsX00, w ∈ wsX4_windows := fun _ h => (List.mem_cons_of_mem _ (List.mem_append_left _ (List.mem_append_right _ h)))
theorem mi_wsX4_windows_wsX10 : ∀ w ∈ wsX10, w ∈ wsX4_windows := fun _ h => (List.mem_cons_of_mem _ (List.mem_append_right _ h))
set_option maxRecDepth 20000 in
theorem ggX4_windows_X4_slideWindow : GoodIn wsX4_windows wsX4_slideWindow := goodIn_m _ [(wsX4_windows_r1, [false, false, false, false, false, false, false, false, false, false, false, false, true, true]), (wsX4_windows_r1, [true, false, false, false, true]), (wsX4_windows_r1, [false, true, false, false, false, false, false, false, false, false, false, false, false, false, true, true, true, true, true, true, true, true, true, true]), (wsX4_windows_r2, [true, true, true, true, true, true, true, true, true, true, true, true, true, true, true, true, true, true, true, true, true, true, true, true]), (wsX4_windows_r3, [true, true]), (wsX4_windows_r1, [false, false, false, false, false, false, false, true]), (wsX4_windows_r3, [false, false, true, true, true, true, true]), (wsX40, [true, true, true, true, true, true, true, true, true]), (wsX00, [true, true]), (wsX10, [true, true, true, true])] (gm_c mi_wsX4_windows_wsX4_windows_r1 (gm_c mi_wsX4_windows_wsX4_windows_r1 (gm_c mi_wsX4_windows_wsX4_windows_r1 (gm_c mi_wsX4_windows_wsX4_windows_r2 (gm_c mi_wsX4_windows_wsX4_windows_r3 (gm_c mi_wsX4_windows_wsX4_windows_r1 (gm_c mi_wsX4_windows_wsX4_windows_r3 (gm_c mi_wsX4_windows_wsX40 (gm_c mi_wsX4_windows_wsX00 (gm_c mi_wsX4_windows_wsX10 gm_n)))))))))) rfl (by decide +kernel)
set_option maxRecDepth 20000 in
theorem gX4_windows_X4_slideWindow : GoodIn wsX4_windows (wsV RX4 237 RX4 yX4_slideWindow wsX4_slideWindow) := goodIn_app (goodIn_m _ [(wsX4_windows_r1, [false, false, false, false, false, false, false, false, false, true, true, true]), (wsX4_windows_r1, [false, false, false, false, false, false, false, true])] (gm_c mi_wsX4_windows_wsX4_windows_r1 (gm_c mi_wsX4_windows_wsX4_windows_r1 gm_n)) rfl (by decide +kernel)) ggX4_windows_X4_slideWindow
set_option maxRecDepth 20000 in
theorem ggX4_windows_X4_kindOfMostWins : GoodIn wsX4_windows wsX4_kindOfMostWins := goodIn_m _ [(wsX4_windows_r3, [false, false, false, false, false, false, false, false, false, false, true]), (wsX4_windows_r1, [true, true, false, false, true]), (wsX4_windows_r1, [false, false, false, true]), (wsX40, [true, true, true, true, true, true, true, true, true]), (wsX00, [true, true])] (gm_c mi_wsX4_windows_wsX4_windows_r3 (gm_c mi_wsX4_windows_wsX4_windows_r1 (gm_c mi_wsX4_windows_wsX4_windows_r1 (gm_c mi_wsX4_windows_wsX40 (gm_c mi_wsX4_windows_wsX00 gm_n))))) rfl (by decide +kernel)
set_option maxRecDepth 20000 in
theorem gX4_windows_X4_kindOfMostWins : GoodIn wsX4_windows (wsV RX4 240 RX4 yX4_kindOfMostWins wsX4_kindOfMostWins) := goodIn_app (goodIn_m _ [(wsX4_windows_r3, [false, false, false, false, false, false, false, true, true, true]), (wsX4_windows_r1, [false, false, false, false, false, false, false, true])] (gm_c mi_wsX4_windows_wsX4_windows_r3 (gm_c mi_wsX4_windows_wsX4_windows_r1 gm_n)) rfl (by decide +kernel)) ggX4_windows_X4_kindOfMostWins
def dt_cX4_windows_0 : List (Nat × Nat × Nat × Nat) := [(0, 21, 1, 4), (2, 155, 2, 9), (5, 21, 1, 4), (7, 5, 0, 0), (8, 164, 2, 5), (11, 2, 0, 0), (12, 172, 0, 0), (13, 27, 0, 0), (14, 4, 0, 0), (15, 161, 2, 22), (18, 27, 0, 0), (19, 42, 0, 0), (20, 180, 2, 12), (23, 180, 2, 57), (26, 163, 2, 11), (29, 28, 0, 0), (30, 29, 0, 0), (31, 184, 2, 186), (34, 154, 2, 16), (37, 21, 1, 4)]
theorem da_cX4_windows_0 : fw dt_cX4_windows_0 0 cX4_windows.data.toList = true := by decide +kernel
theorem dX4_windows_0 : decode cX4_windows 0 = .ok (.iload 4, 2) := fo_21 (fw_get da_cX4_windows_0 0 rfl)
theorem dX4_windows_2 : decode cX4_windows 2 = .ok (.ifCond .lt 9, 3) := fo_155 (fw_get da_cX4_windows_0 1 rfl) (by decide +kernel)
theorem dX4_windows_5 : decode cX4_windows 5 = .ok (.iload 4, 2) := fo_21 (fw_get da_cX4_windows_0 2 rfl)
theorem dX4_windows_7 : decode cX4_windows 7 = .ok (.iconst 2, 1) := fo_5 (fw_get da_cX4_windows_0 3 rfl)
theorem dX4_windows_8 : decode cX4_windows 8 = .ok (.if_icmp .le 5, 3) := fo_164 (fw_get da_cX4_windows_0 4 rfl) (by decide +kernel)
theorem dX4_windows_11 : decode cX4_windows 11 = .ok (.iconst (-1), 1) := fo_2 (fw_get da_cX4_windows_0 5 rfl)
theorem dX4_windows_12 : decode cX4_windows 12 = .ok (.ireturn, 1) := fo_172 (fw_get da_cX4_windows_0 6 rfl)
theorem dX4_windows_13 : decode cX4_windows 13 = .ok (.iload_n 1, 1) := fo_27 (fw_get da_cX4_windows_0 7 rfl)
theorem dX4_windows_14 : decode cX4_windows 14 = .ok (.iconst 1, 1) := fo_4 (fw_get da_cX4_windows_0 8 rfl)
theorem dX4_windows_15 : decode cX4_windows 15 = .ok (.if_icmp .lt 22, 3) := fo_161 (fw_get da_cX4_windows_0 9 rfl) (by decide +kernel)
theorem dX4_windows_18 : decode cX4_windows 18 = .ok (.iload_n 1, 1) := fo_27 (fw_get da_cX4_windows_0 10 rfl)
theorem dX4_windows_19 : decode cX4_windows 19 = .ok (.aload_n 0, 1) := fo_42 (fw_get da_cX4_windows_0 11 rfl)
theorem dX4_windows_20 : decode cX4_windows 20 = .ok (.getfield 12, 3) := fo_180 (fw_get da_cX4_windows_0 12 rfl)
theorem dX4_windows_23 : decode cX4_windows 23 = .ok (.getfield 57, 3) := fo_180 (fw_get da_cX4_windows_0 13 rfl)
theorem dX4_windows_26 : decode cX4_windows 26 = .ok (.if_icmp .gt 11, 3) := fo_163 (fw_get da_cX4_windows_0 14 rfl) (by decide +kernel)
theorem dX4_windows_29 : decode cX4_windows 29 = .ok (.iload_n 2, 1) := fo_28 (fw_get da_cX4_windows_0 15 rfl)
theorem dX4_windows_30 : decode cX4_windows 30 = .ok (.iload_n 3, 1) := fo_29 (fw_get da_cX4_windows_0 16 rfl)
theorem dX4_windows_31 : decode cX4_windows 31 = .ok (.invokestatic 186, 3) := fo_184 (fw_get da_cX4_windows_0 17 rfl)
theorem dX4_windows_34 : decode cX4_windows 34 = .ok (.ifCond .ne 16, 3) := fo_154 (fw_get da_cX4_windows_0 18 rfl) (by decide +kernel)
theorem dX4_windows_37 : decode cX4_windows 37 = .ok (.iload 4, 2) := fo_21 (fw_get da_cX4_windows_0 19 rfl)
def dt_cX4_windows_1 : List (Nat × Nat × Nat × Nat) := [(39, 4, 0, 0), (40, 160, 2, 8), (43, 18, 1, 102), (45, 167, 2, 4), (48, 2, 0, 0), (49, 172, 0, 0), (50, 42, 0, 0), (51, 27, 0, 0), (52, 28, 0, 0), (53, 29, 0, 0), (54, 182, 2, 237), (57, 54, 1, 5), (59, 21, 1, 4), (61, 154, 2, 6), (64, 21, 1, 5), (66, 172, 0, 0), (67, 42, 0, 0), (68, 182, 2, 240), (71, 54, 1, 6), (73, 21, 1, 6)]
theorem da_cX4_windows_1 : fw dt_cX4_windows_1 0 cX4_windows.data.toList = true := by decide +kernel
theorem dX4_windows_39 : decode cX4_windows 39 = .ok (.iconst 1, 1) := fo_4 (fw_get da_cX4_windows_1 0 rfl)
theorem dX4_windows_40 : decode cX4_windows 40 = .ok (.if_icmp .ne 8, 3) := fo_160 (fw_get da_cX4_windows_1 1 rfl) (by decide +kernel)
theorem dX4_windows_43 : decode cX4_windows 43 = .ok (.ldc 102, 2) := fo_18 (fw_get da_cX4_windows_1 2 rfl)
theorem dX4_windows_45 : decode cX4_windows 45 = .ok (.goto 4, 3) := fo_167 (fw_get da_cX4_windows_1 3 rfl) (by decide +kernel)
theorem dX4_windows_48 : decode cX4_windows 48 = .ok (.iconst (-1), 1) := fo_2 (fw_get da_cX4_windows_1 4 rfl)
theorem dX4_windows_49 : decode cX4_windows 49 = .ok (.ireturn, 1) := fo_172 (fw_get da_cX4_windows_1 5 rfl)
theorem dX4_windows_50 : decode cX4_windows 50 = .ok (.aload_n 0, 1) := fo_42 (fw_get da_cX4_windows_1 6 rfl)
theorem dX4_windows_51 : decode cX4_windows 51 = .ok (.iload_n 1, 1) := fo_27 (fw_get da_cX4_windows_1 7 rfl)
theorem dX4_windows_52 : decode cX4_windows 52 = .ok (.iload_n 2, 1) := fo_28 (fw_get da_cX4_windows_1 8 rfl)
theorem dX4_windows_53 : decode cX4_windows 53 = .ok (.iload_n 3, 1) := fo_29 (fw_get da_cX4_windows_1 9 rfl)
theorem dX4_windows_54 : decode cX4_windows 54 = .ok (.invokevirtual 237, 3) := fo_182 (fw_get da_cX4_windows_1 10 rfl)
theorem dX4_windows_57 : decode cX4_windows 57 = .ok (.istore 5, 2) := fo_54 (fw_get da_cX4_windows_1 11 rfl)
theorem dX4_windows_59 : decode cX4_windows 59 = .ok (.iload 4, 2) := fo_21 (fw_get da_cX4_windows_1 12 rfl)
theorem dX4_windows_61 : decode cX4_windows 61 = .ok (.ifCond .ne 6, 3) := fo_154 (fw_get da_cX4_windows_1 13 rfl) (by decide +kernel)
theorem dX4_windows_64 : decode cX4_windows 64 = .ok (.iload 5, 2) := fo_21 (fw_get da_cX4_windows_1 14 rfl)
theorem dX4_windows_66 : decode cX4_windows 66 = .ok (.ireturn, 1) := fo_172 (fw_get da_cX4_windows_1 15 rfl)
theorem dX4_windows_67 : decode cX4_windows 67 = .ok (.aload_n 0, 1) := fo_42 (fw_get da_cX4_windows_1 16 rfl)
theorem dX4_windows_68 : decode cX4_windows 68 = .ok (.invokevirtual 240, 3) := fo_182 (fw_get da_cX4_windows_1 17 rfl)
theorem dX4_windows_71 : decode cX4_windows 71 = .ok (.istore 6, 2) := fo_54 (fw_get da_cX4_windows_1 18 rfl)
theorem dX4_windows_73 : decode cX4_windows 73 = .ok (.iload 6, 2) := fo_21 (fw_get da_cX4_windows_1 19 rfl)
def dt_cX4_windows_2 : List (Nat × Nat × Nat × Nat) := [(75, 2, 0, 0), (76, 160, 2, 16), (79, 21, 1, 4), (81, 4, 0, 0), (82, 160, 2, 8), (85, 18, 1, 102), (87, 167, 2, 4), (90, 3, 0, 0), (91, 172, 0, 0), (92, 21, 1, 4), (94, 4, 0, 0), (95, 160, 2, 16), (98, 42, 0, 0), (99, 180, 2, 12), (102, 180, 2, 110), (105, 21, 1, 6), (107, 46, 0, 0), (108, 167, 2, 10), (111, 42, 0, 0), (112, 180, 2, 42)]
theorem da_cX4_windows_2 : fw dt_cX4_windows_2 0 cX4_windows.data.toList = true := by decide +kernel
theorem dX4_windows_75 : decode cX4_windows 75 = .ok (.iconst (-1), 1) := fo_2 (fw_get da_cX4_windows_2 0 rfl)
theorem dX4_windows_76 : decode cX4_windows 76 = .ok (.if_icmp .ne 16, 3) := fo_160 (fw_get da_cX4_windows_2 1 rfl) (by decide +kernel)
theorem dX4_windows_79 : decode cX4_windows 79 = .ok (.iload 4, 2) := fo_21 (fw_get da_cX4_windows_2 2 rfl)
theorem dX4_windows_81 : decode cX4_windows 81 = .ok (.iconst 1, 1) := fo_4 (fw_get da_cX4_windows_2 3 rfl)
theorem dX4_windows_82 : decode cX4_windows 82 = .ok (.if_icmp .ne 8, 3) := fo_160 (fw_get da_cX4_windows_2 4 rfl) (by decide +kernel)
theorem dX4_windows_85 : decode cX4_windows 85 = .ok (.ldc 102, 2) := fo_18 (fw_get da_cX4_windows_2 5 rfl)
theorem dX4_windows_87 : decode cX4_windows 87 = .ok (.goto 4, 3) := fo_167 (fw_get da_cX4_windows_2 6 rfl) (by decide +kernel)
theorem dX4_windows_90 : decode cX4_windows 90 = .ok (.iconst 0, 1) := fo_3 (fw_get da_cX4_windows_2 7 rfl)
theorem dX4_windows_91 : decode cX4_windows 91 = .ok (.ireturn, 1) := fo_172 (fw_get da_cX4_windows_2 8 rfl)
theorem dX4_windows_92 : decode cX4_windows 92 = .ok (.iload 4, 2) := fo_21 (fw_get da_cX4_windows_2 9 rfl)
theorem dX4_windows_94 : decode cX4_windows 94 = .ok (.iconst 1, 1) := fo_4 (fw_get da_cX4_windows_2 10 rfl)
theorem dX4_windows_95 : decode cX4_windows 95 = .ok (.if_icmp .ne 16, 3) := fo_160 (fw_get da_cX4_windows_2 11 rfl) (by decide +kernel)
theorem dX4_windows_98 : decode cX4_windows 98 = .ok (.aload_n 0, 1) := fo_42 (fw_get da_cX4_windows_2 12 rfl)
theorem dX4_windows_99 : decode cX4_windows 99 = .ok (.getfield 12, 3) := fo_180 (fw_get da_cX4_windows_2 13 rfl)
theorem dX4_windows_102 : decode cX4_windows 102 = .ok (.getfield 110, 3) := fo_180 (fw_get da_cX4_windows_2 14 rfl)
theorem dX4_windows_105 : decode cX4_windows 105 = .ok (.iload 6, 2) := fo_21 (fw_get da_cX4_windows_2 15 rfl)
theorem dX4_windows_107 : decode cX4_windows 107 = .ok (.iaload, 1) := fo_46 (fw_get da_cX4_windows_2 16 rfl)
theorem dX4_windows_108 : decode cX4_windows 108 = .ok (.goto 10, 3) := fo_167 (fw_get da_cX4_windows_2 17 rfl) (by decide +kernel)
theorem dX4_windows_111 : decode cX4_windows 111 = .ok (.aload_n 0, 1) := fo_42 (fw_get da_cX4_windows_2 18 rfl)
theorem dX4_windows_112 : decode cX4_windows 112 = .ok (.getfield 42, 3) := fo_180 (fw_get da_cX4_windows_2 19 rfl)
def dt_cX4_windows_3 : List (Nat × Nat × Nat × Nat) := [(115, 21, 1, 6), (117, 46, 0, 0), (118, 172, 0, 0)]
theorem da_cX4_windows_3 : fw dt_cX4_windows_3 0 cX4_windows.data.toList = true := by decide +kernel
theorem dX4_windows_115 : decode cX4_windows 115 = .ok (.iload 6, 2) := fo_21 (fw_get da_cX4_windows_3 0 rfl)
theorem dX4_windows_117 : decode cX4_windows 117 = .ok (.iaload, 1) := fo_46 (fw_get da_cX4_windows_3 1 rfl)
theorem dX4_windows_118 : decode cX4_windows 118 = .ok (.ireturn, 1) := fo_172 (fw_get da_cX4_windows_3 2 rfl)
theorem mi_wsX4_needs_wsX4_needs_r1 : ∀ w ∈ wsX4_needs_r1, w ∈ wsX4_needs := fun _ h => (List.mem_cons_of_mem _ (List.mem_append_left _ (List.mem_append_left _ (List.mem_append_left _ h))))
set_option maxRecDepth 20000 in
theorem ggX4_needs_X4_isValue : GoodIn wsX4_needs wsX4_isValue := goodIn_m _ [(wsX4_needs_r1, [false, false, false, false, false, false, false, false, true])] (gm_c mi_wsX4_needs_wsX4_needs_r1 gm_n) rfl (by decide +kernel)
set_option maxRecDepth 20000 in
theorem gX4_needs_X4_isValue : GoodIn wsX4_needs (va_wsS RX4 68 yX4_isValue wsX4_isValue) := goodIn_app (goodIn_m _ [(wsX4_needs_r1, [false, false, false, false, false, true, true, true])] (gm_c mi_wsX4_needs_wsX4_needs_r1 gm_n) rfl (by decide +kernel)) ggX4_needs_X4_isValue
theorem mi_wsX4_needs_wsX00 : ∀ w ∈ wsX00, w ∈ wsX4_needs := fun _ h => (List.mem_cons_of_mem _ (List.mem_append_right _ h))
set_option maxRecDepth 20000 in
theorem ggX4_needs_X0_hasRange : GoodIn wsX4_needs wsX0_hasRange := goodIn_m _ [(wsX4_needs_r1, [false, false, false, false, false, false, false, false, false, false, false, false, false, true, true]), (wsX00, [true, true])] (gm_c mi_wsX4_needs_wsX4_needs_r1 (gm_c mi_wsX4_needs_wsX00 gm_n)) rfl (by decide +kernel)
set_option maxRecDepth 20000 in
theorem gX4_needs_X0_hasRange : GoodIn wsX4_needs (wsV RX4 79 RX0 yX0_hasRange wsX0_hasRange) := goodIn_app (goodIn_m _ [(wsX4_needs_r1, [false, false, false, false, false, false, false, false, false, true, true, true, true])] (gm_c mi_wsX4_needs_wsX4_needs_r1 gm_n) rfl (by decide +kernel)) ggX4_needs_X0_hasRange
set_option maxRecDepth 20000 in
theorem ggX4_needs_X4_isShare : GoodIn wsX4_needs wsX4_isShare := goodIn_m _ [(wsX4_needs_r1, [false, false, false, false, false, false, false, false, false, false, false, false, false, false, false, false, false, true])] (gm_c mi_wsX4_needs_wsX4_needs_r1 gm_n) rfl (by decide +kernel)
set_option maxRecDepth 20000 in
theorem gX4_needs_X4_isShare : GoodIn wsX4_needs (va_wsS RX4 186 yX4_isShare wsX4_isShare) := goodIn_app (goodIn_m _ [(wsX4_needs_r1, [false, false, false, false, false, false, false, false, false, false, false, false, false, false, false, true, true]), (wsX4_needs_r1, [false, false, false, false, false, false, false, true])] (gm_c mi_wsX4_needs_wsX4_needs_r1 (gm_c mi_wsX4_needs_wsX4_needs_r1 gm_n)) rfl (by decide +kernel)) ggX4_needs_X4_isShare
set_option maxRecDepth 20000 in
theorem ggX4_needs_X4_mostWithoutHeavy : GoodIn wsX4_needs wsX4_mostWithoutHeavy := goodIn_m _ [(wsX4_needs_r1, [false, false, false, false, false, false, false, false, false, false, false, false, false, false, false, false, false, false, false, false, true])] (gm_c mi_wsX4_needs_wsX4_needs_r1 gm_n) rfl (by decide +kernel)
set_option maxRecDepth 20000 in
theorem gX4_needs_X4_mostWithoutHeavy : GoodIn wsX4_needs (va_wsS RX4 243 yX4_mostWithoutHeavy wsX4_mostWithoutHeavy) := goodIn_app (goodIn_m _ [(wsX4_needs_r1, [false, false, false, false, false, false, false, false, false, false, false, false, false, false, false, false, false, false, true, true]), (wsX4_needs_r1, [false, false, false, false, false, false, false, true])] (gm_c mi_wsX4_needs_wsX4_needs_r1 (gm_c mi_wsX4_needs_wsX4_needs_r1 gm_n)) rfl (by decide +kernel)) ggX4_needs_X4_mostWithoutHeavy
theorem mi_wsX4_needs_wsX4_needs_r2 : ∀ w ∈ wsX4_needs_r2, w ∈ wsX4_needs := fun _ h => (List.mem_cons_of_mem _ (List.mem_append_left _ (List.mem_append_left _ (List.mem_append_right _ h))))
set_option maxRecDepth 20000 in
theorem ggX4_needs_X0_oftenIn : GoodIn wsX4_needs wsX0_oftenIn := goodIn_m _ [(wsX4_needs_r2, [true, true]), (wsX00, [true, true])] (gm_c mi_wsX4_needs_wsX4_needs_r2 (gm_c mi_wsX4_needs_wsX00 gm_n)) rfl (by decide +kernel)
set_option maxRecDepth 20000 in
theorem gX4_needs_X0_oftenIn : GoodIn wsX4_needs (wsV RX4 113 RX0 yX0_oftenIn wsX0_oftenIn) := goodIn_app (goodIn_m _ [(wsX4_needs_r1, [false, false, false, false, false, false, false, false, false, false, false, false, false, false, false, false, false, false, false, false, false, true, true, true]), (wsX4_needs_r1, [false, false, false, false, false, false, false, false, false, false, false, false, true])] (gm_c mi_wsX4_needs_wsX4_needs_r1 (gm_c mi_wsX4_needs_wsX4_needs_r1 gm_n)) rfl (by decide +kernel)) ggX4_needs_X0_oftenIn
def dt_cX4_needs_0 : List (Nat × Nat × Nat × Nat) := [(0, 27, 0, 0), (1, 184, 2, 68), (4, 153, 2, 25), (7, 42, 0, 0), (8, 180, 2, 12), (11, 28, 0, 0), (12, 29, 0, 0), (13, 182, 2, 79), (16, 153, 2, 13), (19, 21, 1, 4), (21, 21, 1, 5), (23, 184, 2, 186), (26, 154, 2, 5), (29, 2, 0, 0), (30, 172, 0, 0), (31, 29, 0, 0), (32, 28, 0, 0), (33, 100, 0, 0), (34, 21, 1, 4), (36, 21, 1, 5)]
theorem da_cX4_needs_0 : fw dt_cX4_needs_0 0 cX4_needs.data.toList = true := by decide +kernel
theorem dX4_needs_0 : decode cX4_needs 0 = .ok (.iload_n 1, 1) := fo_27 (fw_get da_cX4_needs_0 0 rfl)
theorem dX4_needs_1 : decode cX4_needs 1 = .ok (.invokestatic 68, 3) := fo_184 (fw_get da_cX4_needs_0 1 rfl)
theorem dX4_needs_4 : decode cX4_needs 4 = .ok (.ifCond .eq 25, 3) := fo_153 (fw_get da_cX4_needs_0 2 rfl) (by decide +kernel)
theorem dX4_needs_7 : decode cX4_needs 7 = .ok (.aload_n 0, 1) := fo_42 (fw_get da_cX4_needs_0 3 rfl)
theorem dX4_needs_8 : decode cX4_needs 8 = .ok (.getfield 12, 3) := fo_180 (fw_get da_cX4_needs_0 4 rfl)
theorem dX4_needs_11 : decode cX4_needs 11 = .ok (.iload_n 2, 1) := fo_28 (fw_get da_cX4_needs_0 5 rfl)
theorem dX4_needs_12 : decode cX4_needs 12 = .ok (.iload_n 3, 1) := fo_29 (fw_get da_cX4_needs_0 6 rfl)
theorem dX4_needs_13 : decode cX4_needs 13 = .ok (.invokevirtual 79, 3) := fo_182 (fw_get da_cX4_needs_0 7 rfl)
theorem dX4_needs_16 : decode cX4_needs 16 = .ok (.ifCond .eq 13, 3) := fo_153 (fw_get da_cX4_needs_0 8 rfl) (by decide +kernel)
theorem dX4_needs_19 : decode cX4_needs 19 = .ok (.iload 4, 2) := fo_21 (fw_get da_cX4_needs_0 9 rfl)
theorem dX4_needs_21 : decode cX4_needs 21 = .ok (.iload 5, 2) := fo_21 (fw_get da_cX4_needs_0 10 rfl)
theorem dX4_needs_23 : decode cX4_needs 23 = .ok (.invokestatic 186, 3) := fo_184 (fw_get da_cX4_needs_0 11 rfl)
theorem dX4_needs_26 : decode cX4_needs 26 = .ok (.ifCond .ne 5, 3) := fo_154 (fw_get da_cX4_needs_0 12 rfl) (by decide +kernel)
theorem dX4_needs_29 : decode cX4_needs 29 = .ok (.iconst (-1), 1) := fo_2 (fw_get da_cX4_needs_0 13 rfl)
theorem dX4_needs_30 : decode cX4_needs 30 = .ok (.ireturn, 1) := fo_172 (fw_get da_cX4_needs_0 14 rfl)
theorem dX4_needs_31 : decode cX4_needs 31 = .ok (.iload_n 3, 1) := fo_29 (fw_get da_cX4_needs_0 15 rfl)
theorem dX4_needs_32 : decode cX4_needs 32 = .ok (.iload_n 2, 1) := fo_28 (fw_get da_cX4_needs_0 16 rfl)
theorem dX4_needs_33 : decode cX4_needs 33 = .ok (.isub, 1) := fo_100 (fw_get da_cX4_needs_0 17 rfl)
theorem dX4_needs_34 : decode cX4_needs 34 = .ok (.iload 4, 2) := fo_21 (fw_get da_cX4_needs_0 18 rfl)
theorem dX4_needs_36 : decode cX4_needs 36 = .ok (.iload 5, 2) := fo_21 (fw_get da_cX4_needs_0 19 rfl)
def dt_cX4_needs_1 : List (Nat × Nat × Nat × Nat) := [(38, 184, 2, 243), (41, 4, 0, 0), (42, 96, 0, 0), (43, 54, 1, 6), (45, 21, 1, 6), (47, 29, 0, 0), (48, 28, 0, 0), (49, 100, 0, 0), (50, 164, 2, 6), (53, 16, 1, 254), (55, 172, 0, 0), (56, 3, 0, 0), (57, 21, 1, 6), (59, 42, 0, 0), (60, 180, 2, 12), (63, 27, 0, 0), (64, 28, 0, 0), (65, 29, 0, 0), (66, 182, 2, 113), (69, 100, 0, 0)]
theorem da_cX4_needs_1 : fw dt_cX4_needs_1 0 cX4_needs.data.toList = true := by decide +kernel
theorem dX4_needs_38 : decode cX4_needs 38 = .ok (.invokestatic 243, 3) := fo_184 (fw_get da_cX4_needs_1 0 rfl)
theorem dX4_needs_41 : decode cX4_needs 41 = .ok (.iconst 1, 1) := fo_4 (fw_get da_cX4_needs_1 1 rfl)
theorem dX4_needs_42 : decode cX4_needs 42 = .ok (.iadd, 1) := fo_96 (fw_get da_cX4_needs_1 2 rfl)
theorem dX4_needs_43 : decode cX4_needs 43 = .ok (.istore 6, 2) := fo_54 (fw_get da_cX4_needs_1 3 rfl)
theorem dX4_needs_45 : decode cX4_needs 45 = .ok (.iload 6, 2) := fo_21 (fw_get da_cX4_needs_1 4 rfl)
theorem dX4_needs_47 : decode cX4_needs 47 = .ok (.iload_n 3, 1) := fo_29 (fw_get da_cX4_needs_1 5 rfl)
theorem dX4_needs_48 : decode cX4_needs 48 = .ok (.iload_n 2, 1) := fo_28 (fw_get da_cX4_needs_1 6 rfl)
theorem dX4_needs_49 : decode cX4_needs 49 = .ok (.isub, 1) := fo_100 (fw_get da_cX4_needs_1 7 rfl)
theorem dX4_needs_50 : decode cX4_needs 50 = .ok (.if_icmp .le 6, 3) := fo_164 (fw_get da_cX4_needs_1 8 rfl) (by decide +kernel)
theorem dX4_needs_53 : decode cX4_needs 53 = .ok (.bipush (-2), 2) := fo_16 (fw_get da_cX4_needs_1 9 rfl) (by decide +kernel)
theorem dX4_needs_55 : decode cX4_needs 55 = .ok (.ireturn, 1) := fo_172 (fw_get da_cX4_needs_1 10 rfl)
theorem dX4_needs_56 : decode cX4_needs 56 = .ok (.iconst 0, 1) := fo_3 (fw_get da_cX4_needs_1 11 rfl)
theorem dX4_needs_57 : decode cX4_needs 57 = .ok (.iload 6, 2) := fo_21 (fw_get da_cX4_needs_1 12 rfl)
theorem dX4_needs_59 : decode cX4_needs 59 = .ok (.aload_n 0, 1) := fo_42 (fw_get da_cX4_needs_1 13 rfl)
theorem dX4_needs_60 : decode cX4_needs 60 = .ok (.getfield 12, 3) := fo_180 (fw_get da_cX4_needs_1 14 rfl)
theorem dX4_needs_63 : decode cX4_needs 63 = .ok (.iload_n 1, 1) := fo_27 (fw_get da_cX4_needs_1 15 rfl)
theorem dX4_needs_64 : decode cX4_needs 64 = .ok (.iload_n 2, 1) := fo_28 (fw_get da_cX4_needs_1 16 rfl)
theorem dX4_needs_65 : decode cX4_needs 65 = .ok (.iload_n 3, 1) := fo_29 (fw_get da_cX4_needs_1 17 rfl)
theorem dX4_needs_66 : decode cX4_needs 66 = .ok (.invokevirtual 113, 3) := fo_182 (fw_get da_cX4_needs_1 18 rfl)
theorem dX4_needs_69 : decode cX4_needs 69 = .ok (.isub, 1) := fo_100 (fw_get da_cX4_needs_1 19 rfl)
def dt_cX4_needs_2 : List (Nat × Nat × Nat × Nat) := [(70, 184, 2, 96), (73, 172, 0, 0)]
theorem da_cX4_needs_2 : fw dt_cX4_needs_2 0 cX4_needs.data.toList = true := by decide +kernel
theorem dX4_needs_70 : decode cX4_needs 70 = .ok (.invokestatic 96, 3) := fo_184 (fw_get da_cX4_needs_2 0 rfl)
theorem dX4_needs_73 : decode cX4_needs 73 = .ok (.ireturn, 1) := fo_172 (fw_get da_cX4_needs_2 1 rfl)
theorem mi_wsX4_spares_wsX4_spares_r1 : ∀ w ∈ wsX4_spares_r1, w ∈ wsX4_spares := fun _ h => (List.mem_cons_of_mem _ (List.mem_append_left _ (List.mem_append_left _ (List.mem_append_left _ h))))
set_option maxRecDepth 20000 in
theorem ggX4_spares_X4_isValue : GoodIn wsX4_spares wsX4_isValue := goodIn_m _ [(wsX4_spares_r1, [false, false, false, false, false, false, false, false, true])] (gm_c mi_wsX4_spares_wsX4_spares_r1 gm_n) rfl (by decide +kernel)
set_option maxRecDepth 20000 in
theorem gX4_spares_X4_isValue : GoodIn wsX4_spares (va_wsS RX4 68 yX4_isValue wsX4_isValue) := goodIn_app (goodIn_m _ [(wsX4_spares_r1, [false, false, false, false, false, true, true, true])] (gm_c mi_wsX4_spares_wsX4_spares_r1 gm_n) rfl (by decide +kernel)) ggX4_spares_X4_isValue
theorem mi_wsX4_spares_wsX00 : ∀ w ∈ wsX00, w ∈ wsX4_spares := fun _ h => (List.mem_cons_of_mem _ (List.mem_append_right _ h))
set_option maxRecDepth 20000 in
theorem ggX4_spares_X0_hasRange : GoodIn wsX4_spares wsX0_hasRange := goodIn_m _ [(wsX4_spares_r1, [false, false, false, false, false, false, false, false, false, false, false, false, false, true, true]), (wsX00, [true, true])] (gm_c mi_wsX4_spares_wsX4_spares_r1 (gm_c mi_wsX4_spares_wsX00 gm_n)) rfl (by decide +kernel)
set_option maxRecDepth 20000 in
theorem gX4_spares_X0_hasRange : GoodIn wsX4_spares (wsV RX4 79 RX0 yX0_hasRange wsX0_hasRange) := goodIn_app (goodIn_m _ [(wsX4_spares_r1, [false, false, false, false, false, false, false, false, false, true, true, true, true])] (gm_c mi_wsX4_spares_wsX4_spares_r1 gm_n) rfl (by decide +kernel)) ggX4_spares_X0_hasRange
set_option maxRecDepth 20000 in
theorem ggX4_spares_X4_isShare : GoodIn wsX4_spares wsX4_isShare := goodIn_m _ [(wsX4_spares_r1, [false, false, false, false, false, false, false, false, false, false, false, false, false, false, false, false, false, true])] (gm_c mi_wsX4_spares_wsX4_spares_r1 gm_n) rfl (by decide +kernel)
set_option maxRecDepth 20000 in
theorem gX4_spares_X4_isShare : GoodIn wsX4_spares (va_wsS RX4 186 yX4_isShare wsX4_isShare) := goodIn_app (goodIn_m _ [(wsX4_spares_r1, [false, false, false, false, false, false, false, false, false, false, false, false, false, false, false, true, true]), (wsX4_spares_r1, [false, false, false, false, false, false, false, true])] (gm_c mi_wsX4_spares_wsX4_spares_r1 (gm_c mi_wsX4_spares_wsX4_spares_r1 gm_n)) rfl (by decide +kernel)) ggX4_spares_X4_isShare
set_option maxRecDepth 20000 in
theorem ggX4_spares_X0_oftenIn : GoodIn wsX4_spares wsX0_oftenIn := goodIn_m _ [(wsX4_spares_r1, [false, false, false, false, false, false, false, false, false, false, false, false, false, false, false, false, false, false, false, false, false, true, true]), (wsX00, [true, true])] (gm_c mi_wsX4_spares_wsX4_spares_r1 (gm_c mi_wsX4_spares_wsX00 gm_n)) rfl (by decide +kernel)
set_option maxRecDepth 20000 in
theorem gX4_spares_X0_oftenIn : GoodIn wsX4_spares (wsV RX4 113 RX0 yX0_oftenIn wsX0_oftenIn) := goodIn_app (goodIn_m _ [(wsX4_spares_r1, [false, false, false, false, false, false, false, false, false, false, false, false, false, false, false, false, false, false, true, true, true]), (wsX4_spares_r1, [false, false, false, false, false, false, false, false, false, false, false, false, true])] (gm_c mi_wsX4_spares_wsX4_spares_r1 (gm_c mi_wsX4_spares_wsX4_spares_r1 gm_n)) rfl (by decide +kernel)) ggX4_spares_X0_oftenIn
theorem mi_wsX4_spares_wsX4_spares_r2 : ∀ w ∈ wsX4_spares_r2, w ∈ wsX4_spares := fun _ h => (List.mem_cons_of_mem _ (List.mem_append_left _ (List.mem_append_left _ (List.mem_append_right _ h))))
set_option maxRecDepth 20000 in
theorem ggX4_spares_X4_mostWithoutHeavy : GoodIn wsX4_spares wsX4_mostWithoutHeavy := goodIn_m _ [(wsX4_spares_r2, [false, true])] (gm_c mi_wsX4_spares_wsX4_spares_r2 gm_n) rfl (by decide +kernel)
set_option maxRecDepth 20000 in
theorem gX4_spares_X4_mostWithoutHeavy : GoodIn wsX4_spares (va_wsS RX4 243 yX4_mostWithoutHeavy wsX4_mostWithoutHeavy) := goodIn_app (goodIn_m _ [(wsX4_spares_r1, [false, false, false, false, false, false, false, false, false, false, false, false, false, false, false, false, false, false, false, false, false, false, false, true]), (wsX4_spares_r2, [true]), (wsX4_spares_r1, [false, false, false, false, false, false, false, true])] (gm_c mi_wsX4_spares_wsX4_spares_r1 (gm_c mi_wsX4_spares_wsX4_spares_r2 (gm_c mi_wsX4_spares_wsX4_spares_r1 gm_n))) rfl (by decide +kernel)) ggX4_spares_X4_mostWithoutHeavy
def dt_cX4_spares_0 : List (Nat × Nat × Nat × Nat) := [(0, 27, 0, 0), (1, 184, 2, 68), (4, 153, 2, 25), (7, 42, 0, 0), (8, 180, 2, 12), (11, 28, 0, 0), (12, 29, 0, 0), (13, 182, 2, 79), (16, 153, 2, 13), (19, 21, 1, 4), (21, 21, 1, 5), (23, 184, 2, 186), (26, 154, 2, 5), (29, 2, 0, 0), (30, 172, 0, 0), (31, 3, 0, 0), (32, 42, 0, 0), (33, 180, 2, 12), (36, 27, 0, 0), (37, 28, 0, 0)]
theorem da_cX4_spares_0 : fw dt_cX4_spares_0 0 cX4_spares.data.toList = true := by decide +kernel
theorem dX4_spares_0 : decode cX4_spares 0 = .ok (.iload_n 1, 1) := fo_27 (fw_get da_cX4_spares_0 0 rfl)
theorem dX4_spares_1 : decode cX4_spares 1 = .ok (.invokestatic 68, 3) := fo_184 (fw_get da_cX4_spares_0 1 rfl)
theorem dX4_spares_4 : decode cX4_spares 4 = .ok (.ifCond .eq 25, 3) := fo_153 (fw_get da_cX4_spares_0 2 rfl) (by decide +kernel)
theorem dX4_spares_7 : decode cX4_spares 7 = .ok (.aload_n 0, 1) := fo_42 (fw_get da_cX4_spares_0 3 rfl)
theorem dX4_spares_8 : decode cX4_spares 8 = .ok (.getfield 12, 3) := fo_180 (fw_get da_cX4_spares_0 4 rfl)
theorem dX4_spares_11 : decode cX4_spares 11 = .ok (.iload_n 2, 1) := fo_28 (fw_get da_cX4_spares_0 5 rfl)
theorem dX4_spares_12 : decode cX4_spares 12 = .ok (.iload_n 3, 1) := fo_29 (fw_get da_cX4_spares_0 6 rfl)
theorem dX4_spares_13 : decode cX4_spares 13 = .ok (.invokevirtual 79, 3) := fo_182 (fw_get da_cX4_spares_0 7 rfl)
theorem dX4_spares_16 : decode cX4_spares 16 = .ok (.ifCond .eq 13, 3) := fo_153 (fw_get da_cX4_spares_0 8 rfl) (by decide +kernel)
theorem dX4_spares_19 : decode cX4_spares 19 = .ok (.iload 4, 2) := fo_21 (fw_get da_cX4_spares_0 9 rfl)
theorem dX4_spares_21 : decode cX4_spares 21 = .ok (.iload 5, 2) := fo_21 (fw_get da_cX4_spares_0 10 rfl)
theorem dX4_spares_23 : decode cX4_spares 23 = .ok (.invokestatic 186, 3) := fo_184 (fw_get da_cX4_spares_0 11 rfl)
theorem dX4_spares_26 : decode cX4_spares 26 = .ok (.ifCond .ne 5, 3) := fo_154 (fw_get da_cX4_spares_0 12 rfl) (by decide +kernel)
theorem dX4_spares_29 : decode cX4_spares 29 = .ok (.iconst (-1), 1) := fo_2 (fw_get da_cX4_spares_0 13 rfl)
theorem dX4_spares_30 : decode cX4_spares 30 = .ok (.ireturn, 1) := fo_172 (fw_get da_cX4_spares_0 14 rfl)
theorem dX4_spares_31 : decode cX4_spares 31 = .ok (.iconst 0, 1) := fo_3 (fw_get da_cX4_spares_0 15 rfl)
theorem dX4_spares_32 : decode cX4_spares 32 = .ok (.aload_n 0, 1) := fo_42 (fw_get da_cX4_spares_0 16 rfl)
theorem dX4_spares_33 : decode cX4_spares 33 = .ok (.getfield 12, 3) := fo_180 (fw_get da_cX4_spares_0 17 rfl)
theorem dX4_spares_36 : decode cX4_spares 36 = .ok (.iload_n 1, 1) := fo_27 (fw_get da_cX4_spares_0 18 rfl)
theorem dX4_spares_37 : decode cX4_spares 37 = .ok (.iload_n 2, 1) := fo_28 (fw_get da_cX4_spares_0 19 rfl)
def dt_cX4_spares_1 : List (Nat × Nat × Nat × Nat) := [(38, 29, 0, 0), (39, 182, 2, 113), (42, 29, 0, 0), (43, 28, 0, 0), (44, 100, 0, 0), (45, 21, 1, 4), (47, 21, 1, 5), (49, 184, 2, 243), (52, 100, 0, 0), (53, 184, 2, 96), (56, 172, 0, 0)]
theorem da_cX4_spares_1 : fw dt_cX4_spares_1 0 cX4_spares.data.toList = true := by decide +kernel
theorem dX4_spares_38 : decode cX4_spares 38 = .ok (.iload_n 3, 1) := fo_29 (fw_get da_cX4_spares_1 0 rfl)
theorem dX4_spares_39 : decode cX4_spares 39 = .ok (.invokevirtual 113, 3) := fo_182 (fw_get da_cX4_spares_1 1 rfl)
theorem dX4_spares_42 : decode cX4_spares 42 = .ok (.iload_n 3, 1) := fo_29 (fw_get da_cX4_spares_1 2 rfl)
theorem dX4_spares_43 : decode cX4_spares 43 = .ok (.iload_n 2, 1) := fo_28 (fw_get da_cX4_spares_1 3 rfl)
theorem dX4_spares_44 : decode cX4_spares 44 = .ok (.isub, 1) := fo_100 (fw_get da_cX4_spares_1 4 rfl)
theorem dX4_spares_45 : decode cX4_spares 45 = .ok (.iload 4, 2) := fo_21 (fw_get da_cX4_spares_1 5 rfl)
theorem dX4_spares_47 : decode cX4_spares 47 = .ok (.iload 5, 2) := fo_21 (fw_get da_cX4_spares_1 6 rfl)
theorem dX4_spares_49 : decode cX4_spares 49 = .ok (.invokestatic 243, 3) := fo_184 (fw_get da_cX4_spares_1 7 rfl)
theorem dX4_spares_52 : decode cX4_spares 52 = .ok (.isub, 1) := fo_100 (fw_get da_cX4_spares_1 8 rfl)
theorem dX4_spares_53 : decode cX4_spares 53 = .ok (.invokestatic 96, 3) := fo_184 (fw_get da_cX4_spares_1 9 rfl)
theorem dX4_spares_56 : decode cX4_spares 56 = .ok (.ireturn, 1) := fo_172 (fw_get da_cX4_spares_1 10 rfl)
theorem mi_wsX4_would_wsX4_would_r1 : ∀ w ∈ wsX4_would_r1, w ∈ wsX4_would := fun _ h => (List.mem_cons_of_mem _ (List.mem_append_left _ (List.mem_append_left _ (List.mem_append_left _ h))))
theorem mi_wsX4_would_wsX00 : ∀ w ∈ wsX00, w ∈ wsX4_would := fun _ h => (List.mem_cons_of_mem _ (List.mem_append_right _ h))
set_option maxRecDepth 20000 in
theorem ggX4_would_X0_hasPlace : GoodIn wsX4_would wsX0_hasPlace := goodIn_m _ [(wsX4_would_r1, [false, false, false, false, false, false, false, true, true]), (wsX00, [true, true])] (gm_c mi_wsX4_would_wsX4_would_r1 (gm_c mi_wsX4_would_wsX00 gm_n)) rfl (by decide +kernel)
set_option maxRecDepth 20000 in
theorem gX4_would_X0_hasPlace : GoodIn wsX4_would (wsV RX4 64 RX0 yX0_hasPlace wsX0_hasPlace) := goodIn_app (goodIn_m _ [(wsX4_would_r1, [false, false, false, true, true, true, true])] (gm_c mi_wsX4_would_wsX4_would_r1 gm_n) rfl (by decide +kernel)) ggX4_would_X0_hasPlace
set_option maxRecDepth 20000 in
theorem ggX4_would_X4_isValue : GoodIn wsX4_would wsX4_isValue := goodIn_m _ [(wsX4_would_r1, [false, false, false, false, false, false, false, false, false, false, false, false, true])] (gm_c mi_wsX4_would_wsX4_would_r1 gm_n) rfl (by decide +kernel)
set_option maxRecDepth 20000 in
theorem gX4_would_X4_isValue : GoodIn wsX4_would (va_wsS RX4 68 yX4_isValue wsX4_isValue) := goodIn_app (goodIn_m _ [(wsX4_would_r1, [false, false, false, false, false, false, false, false, false, true, true, true])] (gm_c mi_wsX4_would_wsX4_would_r1 gm_n) rfl (by decide +kernel)) ggX4_would_X4_isValue
set_option maxRecDepth 20000 in
theorem ggX4_would_X0_hasRange : GoodIn wsX4_would wsX0_hasRange := goodIn_m _ [(wsX4_would_r1, [false, false, false, false, false, false, false, false, false, false, false, false, false, false, false, false, true]), (wsX4_would_r1, [false, false, false, false, false, false, false, false, true]), (wsX00, [true, true])] (gm_c mi_wsX4_would_wsX4_would_r1 (gm_c mi_wsX4_would_wsX4_would_r1 (gm_c mi_wsX4_would_wsX00 gm_n))) rfl (by decide +kernel)
set_option maxRecDepth 20000 in
theorem gX4_would_X0_hasRange : GoodIn wsX4_would (wsV RX4 79 RX0 yX0_hasRange wsX0_hasRange) := goodIn_app (goodIn_m _ [(wsX4_would_r1, [false, false, false, false, false, false, false, false, false, false, false, false, false, true, true, true]), (wsX4_would_r1, [false, false, false, false, false, false, true])] (gm_c mi_wsX4_would_wsX4_would_r1 (gm_c mi_wsX4_would_wsX4_would_r1 gm_n)) rfl (by decide +kernel)) ggX4_would_X0_hasRange
theorem mi_wsX4_would_wsX4_would_r2 : ∀ w ∈ wsX4_would_r2, w ∈ wsX4_would := fun _ h => (List.mem_cons_of_mem _ (List.mem_append_left _ (List.mem_append_left _ (List.mem_append_right _ h))))
set_option maxRecDepth 20000 in
theorem ggX4_would_X0_leader : GoodIn wsX4_would wsX0_leader := goodIn_m _ [(wsX4_would_r1, [false, false, false, false, false, false, false, false, false, false, false, false, false, false, false, false, false, false, false, false, true, true, true, true]), (wsX4_would_r2, [true, true]), (wsX4_would_r1, [false, false, false, false, false, false, true]), (wsX4_would_r2, [false, false, true, true]), (wsX4_would_r1, [false, false, false, false, false, false, false, false, false, false, false, true]), (wsX4_would_r2, [false, false, false, false, true]), (wsX00, [true, true])] (gm_c mi_wsX4_would_wsX4_would_r1 (gm_c mi_wsX4_would_wsX4_would_r2 (gm_c mi_wsX4_would_wsX4_would_r1 (gm_c mi_wsX4_would_wsX4_would_r2 (gm_c mi_wsX4_would_wsX4_would_r1 (gm_c mi_wsX4_would_wsX4_would_r2 (gm_c mi_wsX4_would_wsX00 gm_n))))))) rfl (by decide +kernel)
set_option maxRecDepth 20000 in
theorem gX4_would_X0_leader : GoodIn wsX4_would (wsV RX4 207 RX0 yX0_leader wsX0_leader) := goodIn_app (goodIn_m _ [(wsX4_would_r1, [false, false, false, false, false, false, false, false, false, false, false, false, false, false, false, false, false, true, true, true]), (wsX4_would_r1, [false, false, false, false, false, false, true])] (gm_c mi_wsX4_would_wsX4_would_r1 (gm_c mi_wsX4_would_wsX4_would_r1 gm_n)) rfl (by decide +kernel)) ggX4_would_X0_leader
def dt_cX4_would_0 : List (Nat × Nat × Nat × Nat) := [(0, 42, 0, 0), (1, 180, 2, 12), (4, 27, 0, 0), (5, 182, 2, 64), (8, 153, 2, 23), (11, 28, 0, 0), (12, 184, 2, 68), (15, 153, 2, 16), (18, 42, 0, 0), (19, 180, 2, 12), (22, 29, 0, 0), (23, 21, 1, 4), (25, 182, 2, 79), (28, 154, 2, 6), (31, 18, 1, 102), (33, 172, 0, 0), (34, 42, 0, 0), (35, 180, 2, 12), (38, 180, 2, 110), (41, 27, 0, 0)]
theorem da_cX4_would_0 : fw dt_cX4_would_0 0 cX4_would.data.toList = true := by decide +kernel
theorem dX4_would_0 : decode cX4_would 0 = .ok (.aload_n 0, 1) := fo_42 (fw_get da_cX4_would_0 0 rfl)
theorem dX4_would_1 : decode cX4_would 1 = .ok (.getfield 12, 3) := fo_180 (fw_get da_cX4_would_0 1 rfl)
theorem dX4_would_4 : decode cX4_would 4 = .ok (.iload_n 1, 1) := fo_27 (fw_get da_cX4_would_0 2 rfl)
theorem dX4_would_5 : decode cX4_would 5 = .ok (.invokevirtual 64, 3) := fo_182 (fw_get da_cX4_would_0 3 rfl)
theorem dX4_would_8 : decode cX4_would 8 = .ok (.ifCond .eq 23, 3) := fo_153 (fw_get da_cX4_would_0 4 rfl) (by decide +kernel)
theorem dX4_would_11 : decode cX4_would 11 = .ok (.iload_n 2, 1) := fo_28 (fw_get da_cX4_would_0 5 rfl)
theorem dX4_would_12 : decode cX4_would 12 = .ok (.invokestatic 68, 3) := fo_184 (fw_get da_cX4_would_0 6 rfl)
theorem dX4_would_15 : decode cX4_would 15 = .ok (.ifCond .eq 16, 3) := fo_153 (fw_get da_cX4_would_0 7 rfl) (by decide +kernel)
theorem dX4_would_18 : decode cX4_would 18 = .ok (.aload_n 0, 1) := fo_42 (fw_get da_cX4_would_0 8 rfl)
theorem dX4_would_19 : decode cX4_would 19 = .ok (.getfield 12, 3) := fo_180 (fw_get da_cX4_would_0 9 rfl)
theorem dX4_would_22 : decode cX4_would 22 = .ok (.iload_n 3, 1) := fo_29 (fw_get da_cX4_would_0 10 rfl)
theorem dX4_would_23 : decode cX4_would 23 = .ok (.iload 4, 2) := fo_21 (fw_get da_cX4_would_0 11 rfl)
theorem dX4_would_25 : decode cX4_would 25 = .ok (.invokevirtual 79, 3) := fo_182 (fw_get da_cX4_would_0 12 rfl)
theorem dX4_would_28 : decode cX4_would 28 = .ok (.ifCond .ne 6, 3) := fo_154 (fw_get da_cX4_would_0 13 rfl) (by decide +kernel)
theorem dX4_would_31 : decode cX4_would 31 = .ok (.ldc 102, 2) := fo_18 (fw_get da_cX4_would_0 14 rfl)
theorem dX4_would_33 : decode cX4_would 33 = .ok (.ireturn, 1) := fo_172 (fw_get da_cX4_would_0 15 rfl)
theorem dX4_would_34 : decode cX4_would 34 = .ok (.aload_n 0, 1) := fo_42 (fw_get da_cX4_would_0 16 rfl)
theorem dX4_would_35 : decode cX4_would 35 = .ok (.getfield 12, 3) := fo_180 (fw_get da_cX4_would_0 17 rfl)
theorem dX4_would_38 : decode cX4_would 38 = .ok (.getfield 110, 3) := fo_180 (fw_get da_cX4_would_0 18 rfl)
theorem dX4_would_41 : decode cX4_would 41 = .ok (.iload_n 1, 1) := fo_27 (fw_get da_cX4_would_0 19 rfl)
def dt_cX4_would_1 : List (Nat × Nat × Nat × Nat) := [(42, 46, 0, 0), (43, 54, 1, 5), (45, 42, 0, 0), (46, 180, 2, 12), (49, 180, 2, 110), (52, 27, 0, 0), (53, 28, 0, 0), (54, 79, 0, 0), (55, 42, 0, 0), (56, 180, 2, 12), (59, 29, 0, 0), (60, 21, 1, 4), (62, 182, 2, 207), (65, 54, 1, 6), (67, 42, 0, 0), (68, 180, 2, 12), (71, 180, 2, 110), (74, 27, 0, 0), (75, 21, 1, 5), (77, 79, 0, 0)]
theorem da_cX4_would_1 : fw dt_cX4_would_1 0 cX4_would.data.toList = true := by decide +kernel
theorem dX4_would_42 : decode cX4_would 42 = .ok (.iaload, 1) := fo_46 (fw_get da_cX4_would_1 0 rfl)
theorem dX4_would_43 : decode cX4_would 43 = .ok (.istore 5, 2) := fo_54 (fw_get da_cX4_would_1 1 rfl)
theorem dX4_would_45 : decode cX4_would 45 = .ok (.aload_n 0, 1) := fo_42 (fw_get da_cX4_would_1 2 rfl)
theorem dX4_would_46 : decode cX4_would 46 = .ok (.getfield 12, 3) := fo_180 (fw_get da_cX4_would_1 3 rfl)
theorem dX4_would_49 : decode cX4_would 49 = .ok (.getfield 110, 3) := fo_180 (fw_get da_cX4_would_1 4 rfl)
theorem dX4_would_52 : decode cX4_would 52 = .ok (.iload_n 1, 1) := fo_27 (fw_get da_cX4_would_1 5 rfl)
theorem dX4_would_53 : decode cX4_would 53 = .ok (.iload_n 2, 1) := fo_28 (fw_get da_cX4_would_1 6 rfl)
theorem dX4_would_54 : decode cX4_would 54 = .ok (.iastore, 1) := fo_79 (fw_get da_cX4_would_1 7 rfl)
theorem dX4_would_55 : decode cX4_would 55 = .ok (.aload_n 0, 1) := fo_42 (fw_get da_cX4_would_1 8 rfl)
theorem dX4_would_56 : decode cX4_would 56 = .ok (.getfield 12, 3) := fo_180 (fw_get da_cX4_would_1 9 rfl)
theorem dX4_would_59 : decode cX4_would 59 = .ok (.iload_n 3, 1) := fo_29 (fw_get da_cX4_would_1 10 rfl)
theorem dX4_would_60 : decode cX4_would 60 = .ok (.iload 4, 2) := fo_21 (fw_get da_cX4_would_1 11 rfl)
theorem dX4_would_62 : decode cX4_would 62 = .ok (.invokevirtual 207, 3) := fo_182 (fw_get da_cX4_would_1 12 rfl)
theorem dX4_would_65 : decode cX4_would 65 = .ok (.istore 6, 2) := fo_54 (fw_get da_cX4_would_1 13 rfl)
theorem dX4_would_67 : decode cX4_would 67 = .ok (.aload_n 0, 1) := fo_42 (fw_get da_cX4_would_1 14 rfl)
theorem dX4_would_68 : decode cX4_would 68 = .ok (.getfield 12, 3) := fo_180 (fw_get da_cX4_would_1 15 rfl)
theorem dX4_would_71 : decode cX4_would 71 = .ok (.getfield 110, 3) := fo_180 (fw_get da_cX4_would_1 16 rfl)
theorem dX4_would_74 : decode cX4_would 74 = .ok (.iload_n 1, 1) := fo_27 (fw_get da_cX4_would_1 17 rfl)
theorem dX4_would_75 : decode cX4_would 75 = .ok (.iload 5, 2) := fo_21 (fw_get da_cX4_would_1 18 rfl)
theorem dX4_would_77 : decode cX4_would 77 = .ok (.iastore, 1) := fo_79 (fw_get da_cX4_would_1 19 rfl)
def dt_cX4_would_2 : List (Nat × Nat × Nat × Nat) := [(78, 21, 1, 6), (80, 172, 0, 0)]
theorem da_cX4_would_2 : fw dt_cX4_would_2 0 cX4_would.data.toList = true := by decide +kernel
theorem dX4_would_78 : decode cX4_would 78 = .ok (.iload 6, 2) := fo_21 (fw_get da_cX4_would_2 0 rfl)
theorem dX4_would_80 : decode cX4_would 80 = .ok (.ireturn, 1) := fo_172 (fw_get da_cX4_would_2 1 rfl)
def dt_cX4_mostWithoutHeavy_0 : List (Nat × Nat × Nat × Nat) := [(0, 28, 0, 0), (1, 158, 2, 11), (4, 27, 0, 0), (5, 26, 0, 0), (6, 104, 0, 0), (7, 28, 0, 0), (8, 108, 0, 0), (9, 167, 2, 4), (12, 3, 0, 0), (13, 172, 0, 0)]
theorem da_cX4_mostWithoutHeavy_0 : fw dt_cX4_mostWithoutHeavy_0 0 cX4_mostWithoutHeavy.data.toList = true := by decide +kernel
theorem dX4_mostWithoutHeavy_0 : decode cX4_mostWithoutHeavy 0 = .ok (.iload_n 2, 1) := fo_28 (fw_get da_cX4_mostWithoutHeavy_0 0 rfl)
theorem dX4_mostWithoutHeavy_1 : decode cX4_mostWithoutHeavy 1 = .ok (.ifCond .le 11, 3) := fo_158 (fw_get da_cX4_mostWithoutHeavy_0 1 rfl) (by decide +kernel)
theorem dX4_mostWithoutHeavy_4 : decode cX4_mostWithoutHeavy 4 = .ok (.iload_n 1, 1) := fo_27 (fw_get da_cX4_mostWithoutHeavy_0 2 rfl)
theorem dX4_mostWithoutHeavy_5 : decode cX4_mostWithoutHeavy 5 = .ok (.iload_n 0, 1) := fo_26 (fw_get da_cX4_mostWithoutHeavy_0 3 rfl)
theorem dX4_mostWithoutHeavy_6 : decode cX4_mostWithoutHeavy 6 = .ok (.imul, 1) := fo_104 (fw_get da_cX4_mostWithoutHeavy_0 4 rfl)
theorem dX4_mostWithoutHeavy_7 : decode cX4_mostWithoutHeavy 7 = .ok (.iload_n 2, 1) := fo_28 (fw_get da_cX4_mostWithoutHeavy_0 5 rfl)
theorem dX4_mostWithoutHeavy_8 : decode cX4_mostWithoutHeavy 8 = .ok (.idiv, 1) := fo_108 (fw_get da_cX4_mostWithoutHeavy_0 6 rfl)
theorem dX4_mostWithoutHeavy_9 : decode cX4_mostWithoutHeavy 9 = .ok (.goto 4, 3) := fo_167 (fw_get da_cX4_mostWithoutHeavy_0 7 rfl) (by decide +kernel)
theorem dX4_mostWithoutHeavy_12 : decode cX4_mostWithoutHeavy 12 = .ok (.iconst 0, 1) := fo_3 (fw_get da_cX4_mostWithoutHeavy_0 8 rfl)
theorem dX4_mostWithoutHeavy_13 : decode cX4_mostWithoutHeavy 13 = .ok (.ireturn, 1) := fo_172 (fw_get da_cX4_mostWithoutHeavy_0 9 rfl)
set_option maxRecDepth 20000 in
theorem ggX4_farthestHeavy_X4_isHeavy : GoodIn wsX4_farthestHeavy wsX4_isHeavy := goodIn_r _ [7] rfl (by decide +kernel)
set_option maxRecDepth 20000 in
theorem gX4_farthestHeavy_X4_isHeavy : GoodIn wsX4_farthestHeavy (va_wsS RX4 273 yX4_isHeavy wsX4_isHeavy) := goodIn_app (goodIn_r _ [4, 5, 6] rfl (by decide +kernel)) ggX4_farthestHeavy_X4_isHeavy
def dt_cX4_farthestHeavy_0 : List (Nat × Nat × Nat × Nat) := [(0, 2, 0, 0), (1, 54, 1, 5), (3, 3, 0, 0), (4, 54, 1, 6), (6, 28, 0, 0), (7, 54, 1, 7), (9, 21, 1, 7), (11, 42, 0, 0), (12, 180, 2, 12), (15, 180, 2, 57), (18, 162, 2, 49), (21, 42, 0, 0), (22, 180, 2, 12), (25, 180, 2, 110), (28, 21, 1, 7), (30, 46, 0, 0), (31, 27, 0, 0), (32, 160, 2, 6), (35, 132, 2, 1537), (38, 21, 1, 6)]
theorem da_cX4_farthestHeavy_0 : fw dt_cX4_farthestHeavy_0 0 cX4_farthestHeavy.data.toList = true := by decide +kernel
theorem dX4_farthestHeavy_0 : decode cX4_farthestHeavy 0 = .ok (.iconst (-1), 1) := fo_2 (fw_get da_cX4_farthestHeavy_0 0 rfl)
theorem dX4_farthestHeavy_1 : decode cX4_farthestHeavy 1 = .ok (.istore 5, 2) := fo_54 (fw_get da_cX4_farthestHeavy_0 1 rfl)
theorem dX4_farthestHeavy_3 : decode cX4_farthestHeavy 3 = .ok (.iconst 0, 1) := fo_3 (fw_get da_cX4_farthestHeavy_0 2 rfl)
theorem dX4_farthestHeavy_4 : decode cX4_farthestHeavy 4 = .ok (.istore 6, 2) := fo_54 (fw_get da_cX4_farthestHeavy_0 3 rfl)
theorem dX4_farthestHeavy_6 : decode cX4_farthestHeavy 6 = .ok (.iload_n 2, 1) := fo_28 (fw_get da_cX4_farthestHeavy_0 4 rfl)
theorem dX4_farthestHeavy_7 : decode cX4_farthestHeavy 7 = .ok (.istore 7, 2) := fo_54 (fw_get da_cX4_farthestHeavy_0 5 rfl)
theorem dX4_farthestHeavy_9 : decode cX4_farthestHeavy 9 = .ok (.iload 7, 2) := fo_21 (fw_get da_cX4_farthestHeavy_0 6 rfl)
theorem dX4_farthestHeavy_11 : decode cX4_farthestHeavy 11 = .ok (.aload_n 0, 1) := fo_42 (fw_get da_cX4_farthestHeavy_0 7 rfl)
theorem dX4_farthestHeavy_12 : decode cX4_farthestHeavy 12 = .ok (.getfield 12, 3) := fo_180 (fw_get da_cX4_farthestHeavy_0 8 rfl)
theorem dX4_farthestHeavy_15 : decode cX4_farthestHeavy 15 = .ok (.getfield 57, 3) := fo_180 (fw_get da_cX4_farthestHeavy_0 9 rfl)
theorem dX4_farthestHeavy_18 : decode cX4_farthestHeavy 18 = .ok (.if_icmp .ge 49, 3) := fo_162 (fw_get da_cX4_farthestHeavy_0 10 rfl) (by decide +kernel)
theorem dX4_farthestHeavy_21 : decode cX4_farthestHeavy 21 = .ok (.aload_n 0, 1) := fo_42 (fw_get da_cX4_farthestHeavy_0 11 rfl)
theorem dX4_farthestHeavy_22 : decode cX4_farthestHeavy 22 = .ok (.getfield 12, 3) := fo_180 (fw_get da_cX4_farthestHeavy_0 12 rfl)
theorem dX4_farthestHeavy_25 : decode cX4_farthestHeavy 25 = .ok (.getfield 110, 3) := fo_180 (fw_get da_cX4_farthestHeavy_0 13 rfl)
theorem dX4_farthestHeavy_28 : decode cX4_farthestHeavy 28 = .ok (.iload 7, 2) := fo_21 (fw_get da_cX4_farthestHeavy_0 14 rfl)
theorem dX4_farthestHeavy_30 : decode cX4_farthestHeavy 30 = .ok (.iaload, 1) := fo_46 (fw_get da_cX4_farthestHeavy_0 15 rfl)
theorem dX4_farthestHeavy_31 : decode cX4_farthestHeavy 31 = .ok (.iload_n 1, 1) := fo_27 (fw_get da_cX4_farthestHeavy_0 16 rfl)
theorem dX4_farthestHeavy_32 : decode cX4_farthestHeavy 32 = .ok (.if_icmp .ne 6, 3) := fo_160 (fw_get da_cX4_farthestHeavy_0 17 rfl) (by decide +kernel)
theorem dX4_farthestHeavy_35 : decode cX4_farthestHeavy 35 = .ok (.iinc 6 1, 3) := fo_132 (fw_get da_cX4_farthestHeavy_0 18 rfl) rfl (by decide +kernel)
theorem dX4_farthestHeavy_38 : decode cX4_farthestHeavy 38 = .ok (.iload 6, 2) := fo_21 (fw_get da_cX4_farthestHeavy_0 19 rfl)
def dt_cX4_farthestHeavy_1 : List (Nat × Nat × Nat × Nat) := [(40, 21, 1, 7), (42, 4, 0, 0), (43, 96, 0, 0), (44, 28, 0, 0), (45, 100, 0, 0), (46, 29, 0, 0), (47, 21, 1, 4), (49, 184, 2, 273), (52, 153, 2, 9), (55, 21, 1, 7), (57, 4, 0, 0), (58, 96, 0, 0), (59, 54, 1, 5), (61, 132, 2, 1793), (64, 167, 2, 65481), (67, 21, 1, 5), (69, 172, 0, 0)]
theorem da_cX4_farthestHeavy_1 : fw dt_cX4_farthestHeavy_1 0 cX4_farthestHeavy.data.toList = true := by decide +kernel
theorem dX4_farthestHeavy_40 : decode cX4_farthestHeavy 40 = .ok (.iload 7, 2) := fo_21 (fw_get da_cX4_farthestHeavy_1 0 rfl)
theorem dX4_farthestHeavy_42 : decode cX4_farthestHeavy 42 = .ok (.iconst 1, 1) := fo_4 (fw_get da_cX4_farthestHeavy_1 1 rfl)
theorem dX4_farthestHeavy_43 : decode cX4_farthestHeavy 43 = .ok (.iadd, 1) := fo_96 (fw_get da_cX4_farthestHeavy_1 2 rfl)
theorem dX4_farthestHeavy_44 : decode cX4_farthestHeavy 44 = .ok (.iload_n 2, 1) := fo_28 (fw_get da_cX4_farthestHeavy_1 3 rfl)
theorem dX4_farthestHeavy_45 : decode cX4_farthestHeavy 45 = .ok (.isub, 1) := fo_100 (fw_get da_cX4_farthestHeavy_1 4 rfl)
theorem dX4_farthestHeavy_46 : decode cX4_farthestHeavy 46 = .ok (.iload_n 3, 1) := fo_29 (fw_get da_cX4_farthestHeavy_1 5 rfl)
theorem dX4_farthestHeavy_47 : decode cX4_farthestHeavy 47 = .ok (.iload 4, 2) := fo_21 (fw_get da_cX4_farthestHeavy_1 6 rfl)
theorem dX4_farthestHeavy_49 : decode cX4_farthestHeavy 49 = .ok (.invokestatic 273, 3) := fo_184 (fw_get da_cX4_farthestHeavy_1 7 rfl)
theorem dX4_farthestHeavy_52 : decode cX4_farthestHeavy 52 = .ok (.ifCond .eq 9, 3) := fo_153 (fw_get da_cX4_farthestHeavy_1 8 rfl) (by decide +kernel)
theorem dX4_farthestHeavy_55 : decode cX4_farthestHeavy 55 = .ok (.iload 7, 2) := fo_21 (fw_get da_cX4_farthestHeavy_1 9 rfl)
theorem dX4_farthestHeavy_57 : decode cX4_farthestHeavy 57 = .ok (.iconst 1, 1) := fo_4 (fw_get da_cX4_farthestHeavy_1 10 rfl)
theorem dX4_farthestHeavy_58 : decode cX4_farthestHeavy 58 = .ok (.iadd, 1) := fo_96 (fw_get da_cX4_farthestHeavy_1 11 rfl)
theorem dX4_farthestHeavy_59 : decode cX4_farthestHeavy 59 = .ok (.istore 5, 2) := fo_54 (fw_get da_cX4_farthestHeavy_1 12 rfl)
theorem dX4_farthestHeavy_61 : decode cX4_farthestHeavy 61 = .ok (.iinc 7 1, 3) := fo_132 (fw_get da_cX4_farthestHeavy_1 13 rfl) rfl (by decide +kernel)
theorem dX4_farthestHeavy_64 : decode cX4_farthestHeavy 64 = .ok (.goto (-55), 3) := fo_167 (fw_get da_cX4_farthestHeavy_1 14 rfl) (by decide +kernel)
theorem dX4_farthestHeavy_67 : decode cX4_farthestHeavy 67 = .ok (.iload 5, 2) := fo_21 (fw_get da_cX4_farthestHeavy_1 15 rfl)
theorem dX4_farthestHeavy_69 : decode cX4_farthestHeavy 69 = .ok (.ireturn, 1) := fo_172 (fw_get da_cX4_farthestHeavy_1 16 rfl)
theorem mi_wsX4_slideWindow_wsX4_slideWindow_r1 : ∀ w ∈ wsX4_slideWindow_r1, w ∈ wsX4_slideWindow := fun _ h => (List.mem_cons_of_mem _ (List.mem_append_left _ (List.mem_append_left _ (List.mem_append_left _ (List.mem_append_left _ h)))))
theorem mi_wsX4_slideWindow_wsX00 : ∀ w ∈ wsX00, w ∈ wsX4_slideWindow := fun _ h => (List.mem_cons_of_mem _ (List.mem_append_left _ (List.mem_append_right _ h)))
theorem mi_wsX4_slideWindow_wsX10 : ∀ w ∈ wsX10, w ∈ wsX4_slideWindow := fun _ h => (List.mem_cons_of_mem _ (List.mem_append_right _ h))
set_option maxRecDepth 20000 in
theorem ggX4_slideWindow_X1_learn : GoodIn wsX4_slideWindow wsX1_learn := goodIn_m _ [(wsX4_slideWindow_r1, [false, false, false, false, false, false, false, false, true, true, true, true, true, true, true, true, true]), (wsX00, [true, true]), (wsX10, [true, true, true, true])] (gm_c mi_wsX4_slideWindow_wsX4_slideWindow_r1 (gm_c mi_wsX4_slideWindow_wsX00 (gm_c mi_wsX4_slideWindow_wsX10 gm_n))) rfl (by decide +kernel)
set_option maxRecDepth 20000 in
theorem gX4_slideWindow_X1_learn : GoodIn wsX4_slideWindow (wsV RX4 117 RX1 yX1_learn wsX1_learn) := goodIn_app (goodIn_m _ [(wsX4_slideWindow_r1, [false, false, false, false, true, true, true, true])] (gm_c mi_wsX4_slideWindow_wsX4_slideWindow_r1 gm_n) rfl (by decide +kernel)) ggX4_slideWindow_X1_learn
theorem mi_wsX4_slideWindow_wsX4_slideWindow_r2 : ∀ w ∈ wsX4_slideWindow_r2, w ∈ wsX4_slideWindow := fun _ h => (List.mem_cons_of_mem _ (List.mem_append_left _ (List.mem_append_left _ (List.mem_append_left _ (List.mem_append_right _ h)))))
set_option maxRecDepth 20000 in
theorem ggX4_slideWindow_X1_clear : GoodIn wsX4_slideWindow wsX1_clear := goodIn_m _ [(wsX4_slideWindow_r1, [false, false, false, false, false, false, false, false, false, false, false, false, false, false, false, false, false, false, false, false, true, true, true, true]), (wsX4_slideWindow_r2, [true, true, true, true]), (wsX10, [true, true, true, true])] (gm_c mi_wsX4_slideWindow_wsX4_slideWindow_r1 (gm_c mi_wsX4_slideWindow_wsX4_slideWindow_r2 (gm_c mi_wsX4_slideWindow_wsX10 gm_n))) rfl (by decide +kernel)
set_option maxRecDepth 20000 in
theorem gX4_slideWindow_X1_clear : GoodIn wsX4_slideWindow (wsV RX4 221 RX1 yX1_clear wsX1_clear) := goodIn_app (goodIn_m _ [(wsX4_slideWindow_r1, [false, false, false, false, false, false, false, false, false, false, false, false, false, false, false, false, false, true, true, true]), (wsX4_slideWindow_r1, [false, false, false, false, false, false, false, true])] (gm_c mi_wsX4_slideWindow_wsX4_slideWindow_r1 (gm_c mi_wsX4_slideWindow_wsX4_slideWindow_r1 gm_n)) rfl (by decide +kernel)) ggX4_slideWindow_X1_clear
set_option maxRecDepth 20000 in
theorem ggX4_slideWindow_J7_fill_53178 : GoodIn wsX4_slideWindow wsJ7_fill_53178 := goodIn_m _ [(wsX4_slideWindow_r2, [false, false, false, true])] (gm_c mi_wsX4_slideWindow_wsX4_slideWindow_r2 gm_n) rfl (by decide +kernel)
set_option maxRecDepth 20000 in
theorem gX4_slideWindow_J7_fill_53178 : GoodIn wsX4_slideWindow (va_wsS RX4 231 yJ7_fill_53178 wsJ7_fill_53178) := goodIn_app (goodIn_m _ [(wsX4_slideWindow_r2, [false, false, false, false, true]), (wsX4_slideWindow_r2, [false, true, true])] (gm_c mi_wsX4_slideWindow_wsX4_slideWindow_r2 (gm_c mi_wsX4_slideWindow_wsX4_slideWindow_r2 gm_n)) rfl (by decide +kernel)) ggX4_slideWindow_J7_fill_53178
set_option maxRecDepth 20000 in
theorem ggX4_slideWindow_X1_take : GoodIn wsX4_slideWindow wsX1_take := goodIn_m _ [(wsX4_slideWindow_r2, [false, false, false, false, false, false, false, false, true]), (wsX4_slideWindow_r1, [false, false, false, false, false, false, false, false, false, false, false, false, false, false, false, false, false, false, false, false, false, true]), (wsX4_slideWindow_r1, [false, false, false, false, false, false, false, false, false, false, true, false, false, false, false, false, false, false, false, false, false, false, true, true]), (wsX10, [true, true, true, true])] (gm_c mi_wsX4_slideWindow_wsX4_slideWindow_r2 (gm_c mi_wsX4_slideWindow_wsX4_slideWindow_r1 (gm_c mi_wsX4_slideWindow_wsX4_slideWindow_r1 (gm_c mi_wsX4_slideWindow_wsX10 gm_n)))) rfl (by decide +kernel)
set_option maxRecDepth 20000 in
theorem gX4_slideWindow_X1_take : GoodIn wsX4_slideWindow (wsV RX4 224 RX1 yX1_take wsX1_take) := goodIn_app (goodIn_m _ [(wsX4_slideWindow_r2, [false, false, false, false, false, true, true, true]), (wsX4_slideWindow_r1, [false, false, false, false, false, false, false, true])] (gm_c mi_wsX4_slideWindow_wsX4_slideWindow_r2 (gm_c mi_wsX4_slideWindow_wsX4_slideWindow_r1 gm_n)) rfl (by decide +kernel)) ggX4_slideWindow_X1_take
set_option maxRecDepth 20000 in
theorem ggX4_slideWindow_X1_drop : GoodIn wsX4_slideWindow wsX1_drop := goodIn_m _ [(wsX4_slideWindow_r2, [false, false, false, false, false, false, false, false, false, false, false, false, true]), (wsX4_slideWindow_r1, [false, false, false, false, false, false, false, false, false, false, false, false, false, false, false, false, false, false, false, false, false, true]), (wsX4_slideWindow_r1, [false, false, false, false, false, false, false, false, false, false, true, false, false, false, false, false, false, false, false, false, false, false, true]), (wsX10, [true, true, true, true])] (gm_c mi_wsX4_slideWindow_wsX4_slideWindow_r2 (gm_c mi_wsX4_slideWindow_wsX4_slideWindow_r1 (gm_c mi_wsX4_slideWindow_wsX4_slideWindow_r1 (gm_c mi_wsX4_slideWindow_wsX10 gm_n)))) rfl (by decide +kernel)
set_option maxRecDepth 20000 in
theorem gX4_slideWindow_X1_drop : GoodIn wsX4_slideWindow (wsV RX4 277 RX1 yX1_drop wsX1_drop) := goodIn_app (goodIn_m _ [(wsX4_slideWindow_r2, [false, false, false, false, false, false, false, false, false, true, true, true]), (wsX4_slideWindow_r1, [false, false, false, false, false, false, false, true])] (gm_c mi_wsX4_slideWindow_wsX4_slideWindow_r2 (gm_c mi_wsX4_slideWindow_wsX4_slideWindow_r1 gm_n)) rfl (by decide +kernel)) ggX4_slideWindow_X1_drop
theorem mi_wsX4_slideWindow_wsX40 : ∀ w ∈ wsX40, w ∈ wsX4_slideWindow := fun _ h => (List.mem_cons_of_mem _ (List.mem_append_left _ (List.mem_append_left _ (List.mem_append_right _ h))))
set_option maxRecDepth 20000 in
theorem ggX4_slideWindow_X4_creditHeavy : GoodIn wsX4_slideWindow wsX4_creditHeavy := goodIn_m _ [(wsX4_slideWindow_r2, [false, false, false, false, false, false, false, false, false, false, false, false, false, false, false, false, false, true]), (wsX4_slideWindow_r1, [false, true, false, true]), (wsX4_slideWindow_r1, [true]), (wsX4_slideWindow_r2, [false, false, false, false, false, false, false, false, false, false, false, false, false, false, false, false, false, false, true]), (wsX4_slideWindow_r1, [false, false, true]), (wsX4_slideWindow_r2, [false, false, false, false, false, false, false, false, false, false, false, false, false, false, false, false, false, false, false, true, true]), (wsX4_slideWindow_r2, [false, false, false, false, false, false, false, false, false, false, false, false, false, false, false, false, true, false, false, false, false, true]), (wsX40, [true, true, true, true, true, true, true, true, true]), (wsX00, [true, true]), (wsX10, [true, true, true, true])] (gm_c mi_wsX4_slideWindow_wsX4_slideWindow_r2 (gm_c mi_wsX4_slideWindow_wsX4_slideWindow_r1 (gm_c mi_wsX4_slideWindow_wsX4_slideWindow_r1 (gm_c mi_wsX4_slideWindow_wsX4_slideWindow_r2 (gm_c mi_wsX4_slideWindow_wsX4_slideWindow_r1 (gm_c mi_wsX4_slideWindow_wsX4_slideWindow_r2 (gm_c mi_wsX4_slideWindow_wsX4_slideWindow_r2 (gm_c mi_wsX4_slideWindow_wsX40 (gm_c mi_wsX4_slideWindow_wsX00 (gm_c mi_wsX4_slideWindow_wsX10 gm_n)))))))))) rfl (by decide +kernel)
set_option maxRecDepth 20000 in
theorem gX4_slideWindow_X4_creditHeavy : GoodIn wsX4_slideWindow (wsV RX4 280 RX4 yX4_creditHeavy wsX4_creditHeavy) := goodIn_app (goodIn_m _ [(wsX4_slideWindow_r2, [false, false, false, false, false, false, false, false, false, false, false, false, false, true, true, true, true])] (gm_c mi_wsX4_slideWindow_wsX4_slideWindow_r2 gm_n) rfl (by decide +kernel)) ggX4_slideWindow_X4_creditHeavy
def dt_cX4_slideWindow_0 : List (Nat × Nat × Nat × Nat) := [(0, 42, 0, 0), (1, 180, 2, 28), (4, 42, 0, 0), (5, 180, 2, 12), (8, 182, 2, 117), (11, 42, 0, 0), (12, 180, 2, 28), (15, 182, 2, 221), (18, 42, 0, 0), (19, 180, 2, 42), (22, 3, 0, 0), (23, 184, 2, 231), (26, 3, 0, 0), (27, 54, 1, 4), (29, 3, 0, 0), (30, 54, 1, 5), (32, 21, 1, 5), (34, 42, 0, 0), (35, 180, 2, 12), (38, 180, 2, 57)]
theorem da_cX4_slideWindow_0 : fw dt_cX4_slideWindow_0 0 cX4_slideWindow.data.toList = true := by decide +kernel
theorem dX4_slideWindow_0 : decode cX4_slideWindow 0 = .ok (.aload_n 0, 1) := fo_42 (fw_get da_cX4_slideWindow_0 0 rfl)
theorem dX4_slideWindow_1 : decode cX4_slideWindow 1 = .ok (.getfield 28, 3) := fo_180 (fw_get da_cX4_slideWindow_0 1 rfl)
theorem dX4_slideWindow_4 : decode cX4_slideWindow 4 = .ok (.aload_n 0, 1) := fo_42 (fw_get da_cX4_slideWindow_0 2 rfl)
theorem dX4_slideWindow_5 : decode cX4_slideWindow 5 = .ok (.getfield 12, 3) := fo_180 (fw_get da_cX4_slideWindow_0 3 rfl)
theorem dX4_slideWindow_8 : decode cX4_slideWindow 8 = .ok (.invokevirtual 117, 3) := fo_182 (fw_get da_cX4_slideWindow_0 4 rfl)
theorem dX4_slideWindow_11 : decode cX4_slideWindow 11 = .ok (.aload_n 0, 1) := fo_42 (fw_get da_cX4_slideWindow_0 5 rfl)
theorem dX4_slideWindow_12 : decode cX4_slideWindow 12 = .ok (.getfield 28, 3) := fo_180 (fw_get da_cX4_slideWindow_0 6 rfl)
theorem dX4_slideWindow_15 : decode cX4_slideWindow 15 = .ok (.invokevirtual 221, 3) := fo_182 (fw_get da_cX4_slideWindow_0 7 rfl)
theorem dX4_slideWindow_18 : decode cX4_slideWindow 18 = .ok (.aload_n 0, 1) := fo_42 (fw_get da_cX4_slideWindow_0 8 rfl)
theorem dX4_slideWindow_19 : decode cX4_slideWindow 19 = .ok (.getfield 42, 3) := fo_180 (fw_get da_cX4_slideWindow_0 9 rfl)
theorem dX4_slideWindow_22 : decode cX4_slideWindow 22 = .ok (.iconst 0, 1) := fo_3 (fw_get da_cX4_slideWindow_0 10 rfl)
theorem dX4_slideWindow_23 : decode cX4_slideWindow 23 = .ok (.invokestatic 231, 3) := fo_184 (fw_get da_cX4_slideWindow_0 11 rfl)
theorem dX4_slideWindow_26 : decode cX4_slideWindow 26 = .ok (.iconst 0, 1) := fo_3 (fw_get da_cX4_slideWindow_0 12 rfl)
theorem dX4_slideWindow_27 : decode cX4_slideWindow 27 = .ok (.istore 4, 2) := fo_54 (fw_get da_cX4_slideWindow_0 13 rfl)
theorem dX4_slideWindow_29 : decode cX4_slideWindow 29 = .ok (.iconst 0, 1) := fo_3 (fw_get da_cX4_slideWindow_0 14 rfl)
theorem dX4_slideWindow_30 : decode cX4_slideWindow 30 = .ok (.istore 5, 2) := fo_54 (fw_get da_cX4_slideWindow_0 15 rfl)
theorem dX4_slideWindow_32 : decode cX4_slideWindow 32 = .ok (.iload 5, 2) := fo_21 (fw_get da_cX4_slideWindow_0 16 rfl)
theorem dX4_slideWindow_34 : decode cX4_slideWindow 34 = .ok (.aload_n 0, 1) := fo_42 (fw_get da_cX4_slideWindow_0 17 rfl)
theorem dX4_slideWindow_35 : decode cX4_slideWindow 35 = .ok (.getfield 12, 3) := fo_180 (fw_get da_cX4_slideWindow_0 18 rfl)
theorem dX4_slideWindow_38 : decode cX4_slideWindow 38 = .ok (.getfield 57, 3) := fo_180 (fw_get da_cX4_slideWindow_0 19 rfl)
def dt_cX4_slideWindow_1 : List (Nat × Nat × Nat × Nat) := [(41, 162, 2, 56), (44, 42, 0, 0), (45, 180, 2, 28), (48, 21, 1, 5), (50, 182, 2, 224), (53, 21, 1, 5), (55, 27, 0, 0), (56, 161, 2, 14), (59, 42, 0, 0), (60, 180, 2, 28), (63, 21, 1, 5), (65, 27, 0, 0), (66, 100, 0, 0), (67, 182, 2, 277), (70, 21, 1, 5), (72, 27, 0, 0), (73, 4, 0, 0), (74, 100, 0, 0), (75, 161, 2, 16), (78, 42, 0, 0)]
theorem da_cX4_slideWindow_1 : fw dt_cX4_slideWindow_1 0 cX4_slideWindow.data.toList = true := by decide +kernel
theorem dX4_slideWindow_41 : decode cX4_slideWindow 41 = .ok (.if_icmp .ge 56, 3) := fo_162 (fw_get da_cX4_slideWindow_1 0 rfl) (by decide +kernel)
theorem dX4_slideWindow_44 : decode cX4_slideWindow 44 = .ok (.aload_n 0, 1) := fo_42 (fw_get da_cX4_slideWindow_1 1 rfl)
theorem dX4_slideWindow_45 : decode cX4_slideWindow 45 = .ok (.getfield 28, 3) := fo_180 (fw_get da_cX4_slideWindow_1 2 rfl)
theorem dX4_slideWindow_48 : decode cX4_slideWindow 48 = .ok (.iload 5, 2) := fo_21 (fw_get da_cX4_slideWindow_1 3 rfl)
theorem dX4_slideWindow_50 : decode cX4_slideWindow 50 = .ok (.invokevirtual 224, 3) := fo_182 (fw_get da_cX4_slideWindow_1 4 rfl)
theorem dX4_slideWindow_53 : decode cX4_slideWindow 53 = .ok (.iload 5, 2) := fo_21 (fw_get da_cX4_slideWindow_1 5 rfl)
theorem dX4_slideWindow_55 : decode cX4_slideWindow 55 = .ok (.iload_n 1, 1) := fo_27 (fw_get da_cX4_slideWindow_1 6 rfl)
theorem dX4_slideWindow_56 : decode cX4_slideWindow 56 = .ok (.if_icmp .lt 14, 3) := fo_161 (fw_get da_cX4_slideWindow_1 7 rfl) (by decide +kernel)
theorem dX4_slideWindow_59 : decode cX4_slideWindow 59 = .ok (.aload_n 0, 1) := fo_42 (fw_get da_cX4_slideWindow_1 8 rfl)
theorem dX4_slideWindow_60 : decode cX4_slideWindow 60 = .ok (.getfield 28, 3) := fo_180 (fw_get da_cX4_slideWindow_1 9 rfl)
theorem dX4_slideWindow_63 : decode cX4_slideWindow 63 = .ok (.iload 5, 2) := fo_21 (fw_get da_cX4_slideWindow_1 10 rfl)
theorem dX4_slideWindow_65 : decode cX4_slideWindow 65 = .ok (.iload_n 1, 1) := fo_27 (fw_get da_cX4_slideWindow_1 11 rfl)
theorem dX4_slideWindow_66 : decode cX4_slideWindow 66 = .ok (.isub, 1) := fo_100 (fw_get da_cX4_slideWindow_1 12 rfl)
theorem dX4_slideWindow_67 : decode cX4_slideWindow 67 = .ok (.invokevirtual 277, 3) := fo_182 (fw_get da_cX4_slideWindow_1 13 rfl)
theorem dX4_slideWindow_70 : decode cX4_slideWindow 70 = .ok (.iload 5, 2) := fo_21 (fw_get da_cX4_slideWindow_1 14 rfl)
theorem dX4_slideWindow_72 : decode cX4_slideWindow 72 = .ok (.iload_n 1, 1) := fo_27 (fw_get da_cX4_slideWindow_1 15 rfl)
theorem dX4_slideWindow_73 : decode cX4_slideWindow 73 = .ok (.iconst 1, 1) := fo_4 (fw_get da_cX4_slideWindow_1 16 rfl)
theorem dX4_slideWindow_74 : decode cX4_slideWindow 74 = .ok (.isub, 1) := fo_100 (fw_get da_cX4_slideWindow_1 17 rfl)
theorem dX4_slideWindow_75 : decode cX4_slideWindow 75 = .ok (.if_icmp .lt 16, 3) := fo_161 (fw_get da_cX4_slideWindow_1 18 rfl) (by decide +kernel)
theorem dX4_slideWindow_78 : decode cX4_slideWindow 78 = .ok (.aload_n 0, 1) := fo_42 (fw_get da_cX4_slideWindow_1 19 rfl)
def dt_cX4_slideWindow_2 : List (Nat × Nat × Nat × Nat) := [(79, 27, 0, 0), (80, 28, 0, 0), (81, 29, 0, 0), (82, 182, 2, 280), (85, 153, 2, 6), (88, 132, 2, 1025), (91, 132, 2, 1281), (94, 167, 2, 65474), (97, 21, 1, 4), (99, 172, 0, 0)]
theorem da_cX4_slideWindow_2 : fw dt_cX4_slideWindow_2 0 cX4_slideWindow.data.toList = true := by decide +kernel
theorem dX4_slideWindow_79 : decode cX4_slideWindow 79 = .ok (.iload_n 1, 1) := fo_27 (fw_get da_cX4_slideWindow_2 0 rfl)
theorem dX4_slideWindow_80 : decode cX4_slideWindow 80 = .ok (.iload_n 2, 1) := fo_28 (fw_get da_cX4_slideWindow_2 1 rfl)
theorem dX4_slideWindow_81 : decode cX4_slideWindow 81 = .ok (.iload_n 3, 1) := fo_29 (fw_get da_cX4_slideWindow_2 2 rfl)
theorem dX4_slideWindow_82 : decode cX4_slideWindow 82 = .ok (.invokevirtual 280, 3) := fo_182 (fw_get da_cX4_slideWindow_2 3 rfl)
theorem dX4_slideWindow_85 : decode cX4_slideWindow 85 = .ok (.ifCond .eq 6, 3) := fo_153 (fw_get da_cX4_slideWindow_2 4 rfl) (by decide +kernel)
theorem dX4_slideWindow_88 : decode cX4_slideWindow 88 = .ok (.iinc 4 1, 3) := fo_132 (fw_get da_cX4_slideWindow_2 5 rfl) rfl (by decide +kernel)
theorem dX4_slideWindow_91 : decode cX4_slideWindow 91 = .ok (.iinc 5 1, 3) := fo_132 (fw_get da_cX4_slideWindow_2 6 rfl) rfl (by decide +kernel)
theorem dX4_slideWindow_94 : decode cX4_slideWindow 94 = .ok (.goto (-62), 3) := fo_167 (fw_get da_cX4_slideWindow_2 7 rfl) (by decide +kernel)
theorem dX4_slideWindow_97 : decode cX4_slideWindow 97 = .ok (.iload 4, 2) := fo_21 (fw_get da_cX4_slideWindow_2 8 rfl)
theorem dX4_slideWindow_99 : decode cX4_slideWindow 99 = .ok (.ireturn, 1) := fo_172 (fw_get da_cX4_slideWindow_2 9 rfl)
set_option maxRecDepth 20000 in
theorem ggX4_creditHeavy_X4_isHeavy : GoodIn wsX4_creditHeavy wsX4_isHeavy := goodIn_r _ [9] rfl (by decide +kernel)
set_option maxRecDepth 20000 in
theorem gX4_creditHeavy_X4_isHeavy : GoodIn wsX4_creditHeavy (va_wsS RX4 273 yX4_isHeavy wsX4_isHeavy) := goodIn_app (goodIn_r _ [6, 7, 8] rfl (by decide +kernel)) ggX4_creditHeavy_X4_isHeavy
def dt_cX4_creditHeavy_0 : List (Nat × Nat × Nat × Nat) := [(0, 3, 0, 0), (1, 54, 1, 4), (3, 3, 0, 0), (4, 54, 1, 5), (6, 21, 1, 5), (8, 42, 0, 0), (9, 180, 2, 12), (12, 180, 2, 57), (15, 162, 2, 42), (18, 42, 0, 0), (19, 180, 2, 28), (22, 180, 2, 283), (25, 21, 1, 5), (27, 46, 0, 0), (28, 27, 0, 0), (29, 28, 0, 0), (30, 29, 0, 0), (31, 184, 2, 273), (34, 153, 2, 17), (37, 42, 0, 0)]
theorem da_cX4_creditHeavy_0 : fw dt_cX4_creditHeavy_0 0 cX4_creditHeavy.data.toList = true := by decide +kernel
theorem dX4_creditHeavy_0 : decode cX4_creditHeavy 0 = .ok (.iconst 0, 1) := fo_3 (fw_get da_cX4_creditHeavy_0 0 rfl)
theorem dX4_creditHeavy_1 : decode cX4_creditHeavy 1 = .ok (.istore 4, 2) := fo_54 (fw_get da_cX4_creditHeavy_0 1 rfl)
theorem dX4_creditHeavy_3 : decode cX4_creditHeavy 3 = .ok (.iconst 0, 1) := fo_3 (fw_get da_cX4_creditHeavy_0 2 rfl)
theorem dX4_creditHeavy_4 : decode cX4_creditHeavy 4 = .ok (.istore 5, 2) := fo_54 (fw_get da_cX4_creditHeavy_0 3 rfl)
theorem dX4_creditHeavy_6 : decode cX4_creditHeavy 6 = .ok (.iload 5, 2) := fo_21 (fw_get da_cX4_creditHeavy_0 4 rfl)
theorem dX4_creditHeavy_8 : decode cX4_creditHeavy 8 = .ok (.aload_n 0, 1) := fo_42 (fw_get da_cX4_creditHeavy_0 5 rfl)
theorem dX4_creditHeavy_9 : decode cX4_creditHeavy 9 = .ok (.getfield 12, 3) := fo_180 (fw_get da_cX4_creditHeavy_0 6 rfl)
theorem dX4_creditHeavy_12 : decode cX4_creditHeavy 12 = .ok (.getfield 57, 3) := fo_180 (fw_get da_cX4_creditHeavy_0 7 rfl)
theorem dX4_creditHeavy_15 : decode cX4_creditHeavy 15 = .ok (.if_icmp .ge 42, 3) := fo_162 (fw_get da_cX4_creditHeavy_0 8 rfl) (by decide +kernel)
theorem dX4_creditHeavy_18 : decode cX4_creditHeavy 18 = .ok (.aload_n 0, 1) := fo_42 (fw_get da_cX4_creditHeavy_0 9 rfl)
theorem dX4_creditHeavy_19 : decode cX4_creditHeavy 19 = .ok (.getfield 28, 3) := fo_180 (fw_get da_cX4_creditHeavy_0 10 rfl)
theorem dX4_creditHeavy_22 : decode cX4_creditHeavy 22 = .ok (.getfield 283, 3) := fo_180 (fw_get da_cX4_creditHeavy_0 11 rfl)
theorem dX4_creditHeavy_25 : decode cX4_creditHeavy 25 = .ok (.iload 5, 2) := fo_21 (fw_get da_cX4_creditHeavy_0 12 rfl)
theorem dX4_creditHeavy_27 : decode cX4_creditHeavy 27 = .ok (.iaload, 1) := fo_46 (fw_get da_cX4_creditHeavy_0 13 rfl)
theorem dX4_creditHeavy_28 : decode cX4_creditHeavy 28 = .ok (.iload_n 1, 1) := fo_27 (fw_get da_cX4_creditHeavy_0 14 rfl)
theorem dX4_creditHeavy_29 : decode cX4_creditHeavy 29 = .ok (.iload_n 2, 1) := fo_28 (fw_get da_cX4_creditHeavy_0 15 rfl)
theorem dX4_creditHeavy_30 : decode cX4_creditHeavy 30 = .ok (.iload_n 3, 1) := fo_29 (fw_get da_cX4_creditHeavy_0 16 rfl)
theorem dX4_creditHeavy_31 : decode cX4_creditHeavy 31 = .ok (.invokestatic 273, 3) := fo_184 (fw_get da_cX4_creditHeavy_0 17 rfl)
theorem dX4_creditHeavy_34 : decode cX4_creditHeavy 34 = .ok (.ifCond .eq 17, 3) := fo_153 (fw_get da_cX4_creditHeavy_0 18 rfl) (by decide +kernel)
theorem dX4_creditHeavy_37 : decode cX4_creditHeavy 37 = .ok (.aload_n 0, 1) := fo_42 (fw_get da_cX4_creditHeavy_0 19 rfl)
def dt_cX4_creditHeavy_1 : List (Nat × Nat × Nat × Nat) := [(38, 180, 2, 42), (41, 21, 1, 5), (43, 92, 0, 0), (44, 46, 0, 0), (45, 4, 0, 0), (46, 96, 0, 0), (47, 79, 0, 0), (48, 4, 0, 0), (49, 54, 1, 4), (51, 132, 2, 1281), (54, 167, 2, 65488), (57, 21, 1, 4), (59, 172, 0, 0)]
theorem da_cX4_creditHeavy_1 : fw dt_cX4_creditHeavy_1 0 cX4_creditHeavy.data.toList = true := by decide +kernel
theorem dX4_creditHeavy_38 : decode cX4_creditHeavy 38 = .ok (.getfield 42, 3) := fo_180 (fw_get da_cX4_creditHeavy_1 0 rfl)
theorem dX4_creditHeavy_41 : decode cX4_creditHeavy 41 = .ok (.iload 5, 2) := fo_21 (fw_get da_cX4_creditHeavy_1 1 rfl)
theorem dX4_creditHeavy_43 : decode cX4_creditHeavy 43 = .ok (.dup2, 1) := fo_92 (fw_get da_cX4_creditHeavy_1 2 rfl)
theorem dX4_creditHeavy_44 : decode cX4_creditHeavy 44 = .ok (.iaload, 1) := fo_46 (fw_get da_cX4_creditHeavy_1 3 rfl)
theorem dX4_creditHeavy_45 : decode cX4_creditHeavy 45 = .ok (.iconst 1, 1) := fo_4 (fw_get da_cX4_creditHeavy_1 4 rfl)
theorem dX4_creditHeavy_46 : decode cX4_creditHeavy 46 = .ok (.iadd, 1) := fo_96 (fw_get da_cX4_creditHeavy_1 5 rfl)
theorem dX4_creditHeavy_47 : decode cX4_creditHeavy 47 = .ok (.iastore, 1) := fo_79 (fw_get da_cX4_creditHeavy_1 6 rfl)
theorem dX4_creditHeavy_48 : decode cX4_creditHeavy 48 = .ok (.iconst 1, 1) := fo_4 (fw_get da_cX4_creditHeavy_1 7 rfl)
theorem dX4_creditHeavy_49 : decode cX4_creditHeavy 49 = .ok (.istore 4, 2) := fo_54 (fw_get da_cX4_creditHeavy_1 8 rfl)
theorem dX4_creditHeavy_51 : decode cX4_creditHeavy 51 = .ok (.iinc 5 1, 3) := fo_132 (fw_get da_cX4_creditHeavy_1 9 rfl) rfl (by decide +kernel)
theorem dX4_creditHeavy_54 : decode cX4_creditHeavy 54 = .ok (.goto (-48), 3) := fo_167 (fw_get da_cX4_creditHeavy_1 10 rfl) (by decide +kernel)
theorem dX4_creditHeavy_57 : decode cX4_creditHeavy 57 = .ok (.iload 4, 2) := fo_21 (fw_get da_cX4_creditHeavy_1 11 rfl)
theorem dX4_creditHeavy_59 : decode cX4_creditHeavy 59 = .ok (.ireturn, 1) := fo_172 (fw_get da_cX4_creditHeavy_1 12 rfl)
def dt_cX4_kindOfMostWins_0 : List (Nat × Nat × Nat × Nat) := [(0, 2, 0, 0), (1, 60, 0, 0), (2, 3, 0, 0), (3, 61, 0, 0), (4, 3, 0, 0), (5, 62, 0, 0), (6, 29, 0, 0), (7, 42, 0, 0), (8, 180, 2, 12), (11, 180, 2, 57), (14, 162, 2, 76), (17, 27, 0, 0), (18, 2, 0, 0), (19, 159, 2, 38), (22, 42, 0, 0), (23, 180, 2, 42), (26, 29, 0, 0), (27, 46, 0, 0), (28, 28, 0, 0), (29, 160, 2, 28)]
theorem da_cX4_kindOfMostWins_0 : fw dt_cX4_kindOfMostWins_0 0 cX4_kindOfMostWins.data.toList = true := by decide +kernel
theorem dX4_kindOfMostWins_0 : decode cX4_kindOfMostWins 0 = .ok (.iconst (-1), 1) := fo_2 (fw_get da_cX4_kindOfMostWins_0 0 rfl)
theorem dX4_kindOfMostWins_1 : decode cX4_kindOfMostWins 1 = .ok (.istore_n 1, 1) := fo_60 (fw_get da_cX4_kindOfMostWins_0 1 rfl)
theorem dX4_kindOfMostWins_2 : decode cX4_kindOfMostWins 2 = .ok (.iconst 0, 1) := fo_3 (fw_get da_cX4_kindOfMostWins_0 2 rfl)
theorem dX4_kindOfMostWins_3 : decode cX4_kindOfMostWins 3 = .ok (.istore_n 2, 1) := fo_61 (fw_get da_cX4_kindOfMostWins_0 3 rfl)
theorem dX4_kindOfMostWins_4 : decode cX4_kindOfMostWins 4 = .ok (.iconst 0, 1) := fo_3 (fw_get da_cX4_kindOfMostWins_0 4 rfl)
theorem dX4_kindOfMostWins_5 : decode cX4_kindOfMostWins 5 = .ok (.istore_n 3, 1) := fo_62 (fw_get da_cX4_kindOfMostWins_0 5 rfl)
theorem dX4_kindOfMostWins_6 : decode cX4_kindOfMostWins 6 = .ok (.iload_n 3, 1) := fo_29 (fw_get da_cX4_kindOfMostWins_0 6 rfl)
theorem dX4_kindOfMostWins_7 : decode cX4_kindOfMostWins 7 = .ok (.aload_n 0, 1) := fo_42 (fw_get da_cX4_kindOfMostWins_0 7 rfl)
theorem dX4_kindOfMostWins_8 : decode cX4_kindOfMostWins 8 = .ok (.getfield 12, 3) := fo_180 (fw_get da_cX4_kindOfMostWins_0 8 rfl)
theorem dX4_kindOfMostWins_11 : decode cX4_kindOfMostWins 11 = .ok (.getfield 57, 3) := fo_180 (fw_get da_cX4_kindOfMostWins_0 9 rfl)
theorem dX4_kindOfMostWins_14 : decode cX4_kindOfMostWins 14 = .ok (.if_icmp .ge 76, 3) := fo_162 (fw_get da_cX4_kindOfMostWins_0 10 rfl) (by decide +kernel)
theorem dX4_kindOfMostWins_17 : decode cX4_kindOfMostWins 17 = .ok (.iload_n 1, 1) := fo_27 (fw_get da_cX4_kindOfMostWins_0 11 rfl)
theorem dX4_kindOfMostWins_18 : decode cX4_kindOfMostWins 18 = .ok (.iconst (-1), 1) := fo_2 (fw_get da_cX4_kindOfMostWins_0 12 rfl)
theorem dX4_kindOfMostWins_19 : decode cX4_kindOfMostWins 19 = .ok (.if_icmp .eq 38, 3) := fo_159 (fw_get da_cX4_kindOfMostWins_0 13 rfl) (by decide +kernel)
theorem dX4_kindOfMostWins_22 : decode cX4_kindOfMostWins 22 = .ok (.aload_n 0, 1) := fo_42 (fw_get da_cX4_kindOfMostWins_0 14 rfl)
theorem dX4_kindOfMostWins_23 : decode cX4_kindOfMostWins 23 = .ok (.getfield 42, 3) := fo_180 (fw_get da_cX4_kindOfMostWins_0 15 rfl)
theorem dX4_kindOfMostWins_26 : decode cX4_kindOfMostWins 26 = .ok (.iload_n 3, 1) := fo_29 (fw_get da_cX4_kindOfMostWins_0 16 rfl)
theorem dX4_kindOfMostWins_27 : decode cX4_kindOfMostWins 27 = .ok (.iaload, 1) := fo_46 (fw_get da_cX4_kindOfMostWins_0 17 rfl)
theorem dX4_kindOfMostWins_28 : decode cX4_kindOfMostWins 28 = .ok (.iload_n 2, 1) := fo_28 (fw_get da_cX4_kindOfMostWins_0 18 rfl)
theorem dX4_kindOfMostWins_29 : decode cX4_kindOfMostWins 29 = .ok (.if_icmp .ne 28, 3) := fo_160 (fw_get da_cX4_kindOfMostWins_0 19 rfl) (by decide +kernel)
def dt_cX4_kindOfMostWins_1 : List (Nat × Nat × Nat × Nat) := [(32, 42, 0, 0), (33, 180, 2, 12), (36, 180, 2, 110), (39, 29, 0, 0), (40, 46, 0, 0), (41, 42, 0, 0), (42, 180, 2, 12), (45, 180, 2, 110), (48, 27, 0, 0), (49, 46, 0, 0), (50, 162, 2, 7), (53, 4, 0, 0), (54, 167, 2, 4), (57, 3, 0, 0), (58, 54, 1, 4), (60, 42, 0, 0), (61, 180, 2, 42), (64, 29, 0, 0), (65, 46, 0, 0), (66, 28, 0, 0)]
theorem da_cX4_kindOfMostWins_1 : fw dt_cX4_kindOfMostWins_1 0 cX4_kindOfMostWins.data.toList = true := by decide +kernel
theorem dX4_kindOfMostWins_32 : decode cX4_kindOfMostWins 32 = .ok (.aload_n 0, 1) := fo_42 (fw_get da_cX4_kindOfMostWins_1 0 rfl)
theorem dX4_kindOfMostWins_33 : decode cX4_kindOfMostWins 33 = .ok (.getfield 12, 3) := fo_180 (fw_get da_cX4_kindOfMostWins_1 1 rfl)
theorem dX4_kindOfMostWins_36 : decode cX4_kindOfMostWins 36 = .ok (.getfield 110, 3) := fo_180 (fw_get da_cX4_kindOfMostWins_1 2 rfl)
theorem dX4_kindOfMostWins_39 : decode cX4_kindOfMostWins 39 = .ok (.iload_n 3, 1) := fo_29 (fw_get da_cX4_kindOfMostWins_1 3 rfl)
theorem dX4_kindOfMostWins_40 : decode cX4_kindOfMostWins 40 = .ok (.iaload, 1) := fo_46 (fw_get da_cX4_kindOfMostWins_1 4 rfl)
theorem dX4_kindOfMostWins_41 : decode cX4_kindOfMostWins 41 = .ok (.aload_n 0, 1) := fo_42 (fw_get da_cX4_kindOfMostWins_1 5 rfl)
theorem dX4_kindOfMostWins_42 : decode cX4_kindOfMostWins 42 = .ok (.getfield 12, 3) := fo_180 (fw_get da_cX4_kindOfMostWins_1 6 rfl)
theorem dX4_kindOfMostWins_45 : decode cX4_kindOfMostWins 45 = .ok (.getfield 110, 3) := fo_180 (fw_get da_cX4_kindOfMostWins_1 7 rfl)
theorem dX4_kindOfMostWins_48 : decode cX4_kindOfMostWins 48 = .ok (.iload_n 1, 1) := fo_27 (fw_get da_cX4_kindOfMostWins_1 8 rfl)
theorem dX4_kindOfMostWins_49 : decode cX4_kindOfMostWins 49 = .ok (.iaload, 1) := fo_46 (fw_get da_cX4_kindOfMostWins_1 9 rfl)
theorem dX4_kindOfMostWins_50 : decode cX4_kindOfMostWins 50 = .ok (.if_icmp .ge 7, 3) := fo_162 (fw_get da_cX4_kindOfMostWins_1 10 rfl) (by decide +kernel)
theorem dX4_kindOfMostWins_53 : decode cX4_kindOfMostWins 53 = .ok (.iconst 1, 1) := fo_4 (fw_get da_cX4_kindOfMostWins_1 11 rfl)
theorem dX4_kindOfMostWins_54 : decode cX4_kindOfMostWins 54 = .ok (.goto 4, 3) := fo_167 (fw_get da_cX4_kindOfMostWins_1 12 rfl) (by decide +kernel)
theorem dX4_kindOfMostWins_57 : decode cX4_kindOfMostWins 57 = .ok (.iconst 0, 1) := fo_3 (fw_get da_cX4_kindOfMostWins_1 13 rfl)
theorem dX4_kindOfMostWins_58 : decode cX4_kindOfMostWins 58 = .ok (.istore 4, 2) := fo_54 (fw_get da_cX4_kindOfMostWins_1 14 rfl)
theorem dX4_kindOfMostWins_60 : decode cX4_kindOfMostWins 60 = .ok (.aload_n 0, 1) := fo_42 (fw_get da_cX4_kindOfMostWins_1 15 rfl)
theorem dX4_kindOfMostWins_61 : decode cX4_kindOfMostWins 61 = .ok (.getfield 42, 3) := fo_180 (fw_get da_cX4_kindOfMostWins_1 16 rfl)
theorem dX4_kindOfMostWins_64 : decode cX4_kindOfMostWins 64 = .ok (.iload_n 3, 1) := fo_29 (fw_get da_cX4_kindOfMostWins_1 17 rfl)
theorem dX4_kindOfMostWins_65 : decode cX4_kindOfMostWins 65 = .ok (.iaload, 1) := fo_46 (fw_get da_cX4_kindOfMostWins_1 18 rfl)
theorem dX4_kindOfMostWins_66 : decode cX4_kindOfMostWins 66 = .ok (.iload_n 2, 1) := fo_28 (fw_get da_cX4_kindOfMostWins_1 19 rfl)
def dt_cX4_kindOfMostWins_2 : List (Nat × Nat × Nat × Nat) := [(67, 163, 2, 8), (70, 21, 1, 4), (72, 153, 2, 12), (75, 29, 0, 0), (76, 60, 0, 0), (77, 42, 0, 0), (78, 180, 2, 42), (81, 29, 0, 0), (82, 46, 0, 0), (83, 61, 0, 0), (84, 132, 2, 769), (87, 167, 2, 65455), (90, 27, 0, 0), (91, 172, 0, 0)]
theorem da_cX4_kindOfMostWins_2 : fw dt_cX4_kindOfMostWins_2 0 cX4_kindOfMostWins.data.toList = true := by decide +kernel
theorem dX4_kindOfMostWins_67 : decode cX4_kindOfMostWins 67 = .ok (.if_icmp .gt 8, 3) := fo_163 (fw_get da_cX4_kindOfMostWins_2 0 rfl) (by decide +kernel)
theorem dX4_kindOfMostWins_70 : decode cX4_kindOfMostWins 70 = .ok (.iload 4, 2) := fo_21 (fw_get da_cX4_kindOfMostWins_2 1 rfl)
theorem dX4_kindOfMostWins_72 : decode cX4_kindOfMostWins 72 = .ok (.ifCond .eq 12, 3) := fo_153 (fw_get da_cX4_kindOfMostWins_2 2 rfl) (by decide +kernel)
theorem dX4_kindOfMostWins_75 : decode cX4_kindOfMostWins 75 = .ok (.iload_n 3, 1) := fo_29 (fw_get da_cX4_kindOfMostWins_2 3 rfl)
theorem dX4_kindOfMostWins_76 : decode cX4_kindOfMostWins 76 = .ok (.istore_n 1, 1) := fo_60 (fw_get da_cX4_kindOfMostWins_2 4 rfl)
theorem dX4_kindOfMostWins_77 : decode cX4_kindOfMostWins 77 = .ok (.aload_n 0, 1) := fo_42 (fw_get da_cX4_kindOfMostWins_2 5 rfl)
theorem dX4_kindOfMostWins_78 : decode cX4_kindOfMostWins 78 = .ok (.getfield 42, 3) := fo_180 (fw_get da_cX4_kindOfMostWins_2 6 rfl)
theorem dX4_kindOfMostWins_81 : decode cX4_kindOfMostWins 81 = .ok (.iload_n 3, 1) := fo_29 (fw_get da_cX4_kindOfMostWins_2 7 rfl)
theorem dX4_kindOfMostWins_82 : decode cX4_kindOfMostWins 82 = .ok (.iaload, 1) := fo_46 (fw_get da_cX4_kindOfMostWins_2 8 rfl)
theorem dX4_kindOfMostWins_83 : decode cX4_kindOfMostWins 83 = .ok (.istore_n 2, 1) := fo_61 (fw_get da_cX4_kindOfMostWins_2 9 rfl)
theorem dX4_kindOfMostWins_84 : decode cX4_kindOfMostWins 84 = .ok (.iinc 3 1, 3) := fo_132 (fw_get da_cX4_kindOfMostWins_2 10 rfl) rfl (by decide +kernel)
theorem dX4_kindOfMostWins_87 : decode cX4_kindOfMostWins 87 = .ok (.goto (-81), 3) := fo_167 (fw_get da_cX4_kindOfMostWins_2 11 rfl) (by decide +kernel)
theorem dX4_kindOfMostWins_90 : decode cX4_kindOfMostWins 90 = .ok (.iload_n 1, 1) := fo_27 (fw_get da_cX4_kindOfMostWins_2 12 rfl)
theorem dX4_kindOfMostWins_91 : decode cX4_kindOfMostWins 91 = .ok (.ireturn, 1) := fo_172 (fw_get da_cX4_kindOfMostWins_2 13 rfl)


theorem upd_back (f : Nat → Int32) (k : Nat) (v : Int32) : upd (upd f k v) k (f k) = f := by
  funext j
  unfold upd
  split
  · rename_i h
    rw [h]
  · rfl

set_option maxHeartbeats 4000000 in
set_option maxRecDepth 100000 in
theorem c_X4_count (l : Launch) (dC : Nat → ClassId) (dI : Nat → Nat → Nat) (m_ : Nat) (q_row : Nat) (q_t : Nat) (t_ : Nat) (h0 : Nat) (k0 : Nat) (w_ : Nat) (z_ : Nat) (slots : Int32) (old : Int32) (q_cell : Nat) (cyI : ClassId) (len : Int32) (f : Nat → Int32) (p0 : Int32) (p1 : Int32) (p2 : Int32) (a0 : 0 ≤ len.toInt) (a1 : len.toInt ≤ 160) : Met l yX4_count wsX4_count ({ frames := 1, cells := 0, slots := 0, locals := 45 }) (va_Pc [.ref m_, .int p0, .int p1, .int p2] (fun U => va_P (dC, dI) vwCl [kx_4 m_ q_row q_t t_ h0 k0 w_ z_ slots old, kx_0 q_row q_cell len, kx_a q_cell cyI 160 f] U.heap ∧ va_K (dC, dI) vwCl [(cyI, .int)] U)) (vp_Si (fun r : Int32 => True)) 0 0 (fun _ => False) := by
  refine kx_stS (ws := wsX4_count) (cc := cX4_count) (maxL := 4) (ret := (some .int)) (by decide) rfl (Nat.le_of_ble_eq_true rfl) ?_
  intro p e s m below meth c ls hx hb hr hlocks hts hown hml hP hK hl
  have hown : s.vm.findClass RX4 = some m.cls := hown
  have hl : lv_has ls 4 [(0, .ref m_), (1, .int p0), (2, .int p1), (3, .int p2)] := hl
  have hf_12 := hts (.fieldLink RX4 12 "MajorityIndex" "row" "LMajorityIndex$Row;") (List.mem_of_getElem? (i := 1) rfl)
  have hi_4 : ∀ w ∈ u_ws RX4 TX4 9, w ∈ wsX4_count := fun w h => List.mem_cons_of_mem _ (List.mem_append_left _ (List.mem_append_right _ h))
  refine lv_iload_n hx hb dX4_count_0 rfl (lv_at hl 1 rfl) ?_
  have hPc := hP.sub (ws' := []) [] rfl
  have hKc := hK.sub (tys' := []) [] rfl
  refine vp_callSi (W.runS (As := [.int p0]) (rest := []) ⟨hx, hb, hml, hown, hts⟩ (c_X4_isValue l dC dI p0) (va_cwS 1 hts gX4_count_X4_isValue rfl rfl rfl (by decide +kernel) ⟨Nat.le_of_ble_eq_true rfl, Nat.le_of_ble_eq_true rfl⟩) ⟨fun a U g mk q => by obtain ⟨q0, qP, qK⟩ := q; exact ⟨q0, qP, va_K.moved (u := U) (U := U.calling g mk a) (Vm.Alike.refl U.vm) qK⟩, fun U hU hW => ⟨rfl, by rw [hU]; exact hPc, va_K.moved hW.alike hKc⟩⟩ rfl rfl hl.1 rfl (lv_room (Nat.le_of_ble_eq_true rfl)) dX4_count_1 ⟨Nat.le_of_ble_eq_true rfl, Nat.le_of_ble_eq_true rfl⟩) (fun r_1 w_1 => ?_)
  rcases w_1 with ⟨rfl, w_1⟩ | ⟨rfl, w_1⟩
  · have w_1 : (-32768 ≤ p0.toInt ∧ p0.toInt ≤ 32767) := w_1
    refine lv_if_eq (tgt := 19) hx hb dX4_count_4 (by decide) (fun c_2 => ?_) (fun c_2 => ?_)
    · exact absurd c_2 (by decide)
    · refine lv_aload_n hx hb dX4_count_7 rfl (lv_at hl 0 rfl) ?_
      refine va_get (D := (dC, dI)) (ci := 4) (v := .ref q_row) (C := RX4) (T := TX4) (N := 9) hx hb hts hi_4 hown hK hP 0 rfl rfl 0 (by decide) hf_12 (fun _ h9 => h9) rfl dX4_count_8 ?_
      refine lv_iload_n hx hb dX4_count_11 rfl (lv_at hl 2 rfl) ?_
      refine lv_iload_n hx hb dX4_count_12 rfl (lv_at hl 3 rfl) ?_
      have hPc := hP.sub (ws' := [kx_0 q_row q_cell len]) [1] rfl
      have hKc := hK.sub (tys' := []) [] rfl
      refine vp_callSi (W.runV (As := [.int p1, .int p2]) (rest := []) ⟨hx, hb, hml, hown, hts⟩ (c_X0_hasRange l dC dI q_row q_cell len p1 p2) (cwV 2 hts gX4_count_X0_hasRange rfl rfl rfl (by decide +kernel) ⟨Nat.le_of_ble_eq_true rfl, Nat.le_of_ble_eq_true rfl⟩) ⟨fun a U g mk q => by obtain ⟨q0, qP, qK⟩ := q; exact ⟨q0, qP, va_K.moved (u := U) (U := U.calling g mk a) (Vm.Alike.refl U.vm) qK⟩, kx_rc0 hKc hPc (q0 := 0) rfl, fun U hU hW => ⟨rfl, by rw [hU]; exact hPc, va_K.moved hW.alike hKc⟩⟩ rfl rfl hl.1 rfl (lv_room (Nat.le_of_ble_eq_true rfl)) dX4_count_13 ⟨Nat.le_of_ble_eq_true rfl, Nat.le_of_ble_eq_true rfl⟩) (fun r_3 w_3 => ?_)
      rcases w_3 with ⟨rfl, w_3⟩ | ⟨rfl, w_3⟩
      · have w_3 : (0 ≤ p1.toInt ∧ p1.toInt < p2.toInt ∧ p2.toInt ≤ len.toInt) := w_3
        refine lv_if_ne (tgt := 21) hx hb dX4_count_16 (by decide) (fun c_4 => ?_) (fun c_4 => ?_)
        · refine lv_aload_n hx hb dX4_count_21 rfl (lv_at hl 0 rfl) ?_
          refine va_get (D := (dC, dI)) (ci := 4) (v := .ref q_row) (C := RX4) (T := TX4) (N := 9) hx hb hts hi_4 hown hK hP 0 rfl rfl 0 (by decide) hf_12 (fun _ h9 => h9) rfl dX4_count_22 ?_
          refine lv_iload_n hx hb dX4_count_25 rfl (lv_at hl 1 rfl) ?_
          refine lv_iload_n hx hb dX4_count_26 rfl (lv_at hl 2 rfl) ?_
          refine lv_iload_n hx hb dX4_count_27 rfl (lv_at hl 3 rfl) ?_
          have hPc := hP.sub (ws' := [kx_0 q_row q_cell len, kx_a q_cell cyI 160 f]) [1, 2] rfl
          have hKc := hK
          refine vp_callSi (W.runV (As := [.int p0, .int p1, .int p2]) (rest := []) ⟨hx, hb, hml, hown, hts⟩ (c_X0_oftenIn l dC dI q_row q_cell cyI len f p0 p1 p2 (om_10 w_3.1) (om_167 a1 w_3.2.2)) (cwV 3 hts gX4_count_X0_oftenIn rfl rfl rfl (by decide +kernel) ⟨Nat.le_of_ble_eq_true rfl, Nat.le_of_ble_eq_true rfl⟩) ⟨fun a U g mk q => by obtain ⟨q0, qP, qK⟩ := q; exact ⟨q0, qP, va_K.moved (u := U) (U := U.calling g mk a) (Vm.Alike.refl U.vm) qK⟩, kx_rc0 hKc hPc (q0 := 0) rfl, fun U hU hW => ⟨rfl, by rw [hU]; exact hPc, va_K.moved hW.alike hKc⟩⟩ rfl rfl hl.1 rfl (lv_room (Nat.le_of_ble_eq_true rfl)) dX4_count_28 ⟨Nat.le_of_ble_eq_true rfl, Nat.le_of_ble_eq_true rfl⟩) (fun r_5 w_5 => ?_)
          have w_5 : r_5.toInt = (cnt f p0 p1.toNatClampNeg (p2.toInt - p1.toInt).toNat : Int) := w_5
          exact W.iret (v := r_5) hx hb hr (hlocks := hlocks) (fun t ht hW => ⟨r_5, rfl, trivial, ht⟩) (fun q hq => by cases hq) dX4_count_31
        · exact absurd c_4 (by decide)
      · have w_3 : (p1.toInt < 0 ∨ p2.toInt ≤ p1.toInt ∨ len.toInt < p2.toInt) := w_3
        refine lv_if_ne (tgt := 21) hx hb dX4_count_16 (by decide) (fun c_6 => ?_) (fun c_6 => ?_)
        · exact absurd c_6 (by decide)
        · refine lv_iconst (v := (-1)) hx hb dX4_count_19 (by decide) ?_
          exact W.iret (v := (-1)) hx hb hr (hlocks := hlocks) (fun t ht hW => ⟨(-1), rfl, trivial, ht⟩) (fun q hq => by cases hq) dX4_count_20
  · have w_1 : (p0.toInt < -32768 ∨ 32767 < p0.toInt) := w_1
    refine lv_if_eq (tgt := 19) hx hb dX4_count_4 (by decide) (fun c_7 => ?_) (fun c_7 => ?_)
    · refine lv_iconst (v := (-1)) hx hb dX4_count_19 (by decide) ?_
      exact W.iret (v := (-1)) hx hb hr (hlocks := hlocks) (fun t ht hW => ⟨(-1), rfl, trivial, ht⟩) (fun q hq => by cases hq) dX4_count_20
    · exact absurd c_7 (by decide)

set_option maxHeartbeats 4000000 in
set_option maxRecDepth 100000 in
theorem c_X4_place (l : Launch) (dC : Nat → ClassId) (dI : Nat → Nat → Nat) (m_ : Nat) (q_row : Nat) (q_t : Nat) (t_ : Nat) (h0 : Nat) (k0 : Nat) (w_ : Nat) (z_ : Nat) (slots : Int32) (old : Int32) (q_cell : Nat) (cyI : ClassId) (len : Int32) (f : Nat → Int32) (p0 : Int32) (p1 : Int32) (a0 : 0 ≤ len.toInt) (a1 : len.toInt ≤ 160) : Met l yX4_place wsX4_place ({ frames := 0, cells := 0, slots := 0, locals := 0 }) (va_Pc [.ref m_, .int p0, .int p1] (fun U => va_P (dC, dI) vwCl [kx_4 m_ q_row q_t t_ h0 k0 w_ z_ slots old, kx_0 q_row q_cell len, kx_a q_cell cyI 160 f] U.heap ∧ va_K (dC, dI) vwCl [(cyI, .int)] U)) (vp_Si (fun r : Int32 => True)) 0 0 (fun _ => False) := by
  refine kx_stS (ws := wsX4_place) (cc := cX4_place) (maxL := 5) (ret := (some .int)) (by decide) rfl (Nat.le_of_ble_eq_true rfl) ?_
  intro p e s m below meth c ls hx hb hr hlocks hts hown hml hP hK hl
  have hown : s.vm.findClass RX4 = some m.cls := hown
  have hl : lv_has ls 5 [(0, .ref m_), (1, .int p0), (2, .int p1)] := hl
  have hf_12 := hts (.fieldLink RX4 12 "MajorityIndex" "row" "LMajorityIndex$Row;") (List.mem_of_getElem? (i := 1) rfl)
  have hi_4 : ∀ w ∈ u_ws RX4 TX4 9, w ∈ wsX4_place := fun w h => List.mem_cons_of_mem _ (List.mem_append_left _ (List.mem_append_right _ h))
  have hf_57 := hts (.fieldLink RX4 57 "MajorityIndex$Row" "length" "I") (List.mem_of_getElem? (i := 2) rfl)
  have hi_0 : ∀ w ∈ u_ws RX0 TX0 2, w ∈ wsX4_place := fun w h => List.mem_cons_of_mem _ (List.mem_append_right _ h)
  have hf_110 := hts (.fieldLink RX4 110 "MajorityIndex$Row" "cell" "[I") (List.mem_of_getElem? (i := 3) rfl)
  refine lv_iload_n hx hb dX4_place_0 rfl (lv_at hl 2 rfl) ?_
  refine lv_if_ge (tgt := 6) hx hb dX4_place_1 (by decide) (fun c_1 => ?_) (fun c_1 => ?_)
  · have i_1 : 0 ≤ p1.toInt := kc_le c_1
    refine lv_iconst (v := 0) hx hb dX4_place_6 (by decide) ?_
    refine lv_istore_n (lv' := [(3, .int 0), (0, .ref m_), (1, .int p0), (2, .int p1)]) hx hb dX4_place_7 rfl hl (by decide) rfl (fun ls hl => ?_)
    refine lv_iconst (v := 0) hx hb dX4_place_8 (by decide) ?_
    refine lv_istore (lv' := [(4, .int 0), (3, .int 0), (0, .ref m_), (1, .int p0), (2, .int p1)]) hx hb dX4_place_9 hl (by decide) rfl (fun ls hl => ?_)
    have LP1 : ∀ (n : Nat) (i : Int32) (seen : Int32), (0 ≤ i.toInt) → (len.toInt - i.toInt).toNat < n → ∀ (ls : Array Slot), lv_has ls 5 [(4, .int i), (3, .int seen), (0, .ref m_), (1, .int p0), (2, .int p1)] → W p l e (headSpec wsX4_place ({ frames := 0, cells := 0, slots := 0, locals := 0 })).room s m ([.ref m_, .int p0, .int p1] : List Value).toArray below meth c s.heap [] 0 0 (MQ below (vp_Si (fun r : Int32 => True)) ([.ref m_, .int p0, .int p1] : List Value).toArray s 0 0 (fun _ => False)) (F0 m 11 ls []) := by
      intro n
      induction n with
      | zero => intro i seen LP1_h0 hn; exact absurd hn (Nat.not_lt_zero _)
      | succ n ih1 =>
        intro i seen LP1_h0 hn1 ls hl
        refine lv_iload hx hb dX4_place_11 (lv_at hl 0 rfl) ?_
        refine lv_aload_n hx hb dX4_place_13 rfl (lv_at hl 2 rfl) ?_
        refine va_get (D := (dC, dI)) (ci := 4) (v := .ref q_row) (C := RX4) (T := TX4) (N := 9) hx hb hts hi_4 hown hK hP 0 rfl rfl 0 (by decide) hf_12 (fun _ h9 => h9) rfl dX4_place_14 ?_
        refine va_get (D := (dC, dI)) (ci := 0) (v := .int len) (C := RX0) (T := TX0) (N := 2) hx hb hts hi_0 hown hK hP 1 rfl rfl 1 (by decide) hf_57 (fun _ h9 => h9) rfl dX4_place_17 ?_
        refine lv_icmp_ge (tgt := 54) hx hb dX4_place_20 (by decide) (fun c_2 => ?_) (fun c_2 => ?_)
        · have i_2 : len.toInt ≤ i.toInt := kc_le c_2
          refine lv_iconst (v := (-1)) hx hb dX4_place_54 (by decide) ?_
          exact W.iret (v := (-1)) hx hb hr (hlocks := hlocks) (fun t ht hW => ⟨(-1), rfl, trivial, ht⟩) (fun q hq => by cases hq) dX4_place_55
        · have i_2 : i.toInt < len.toInt := kc_nle c_2
          refine lv_aload_n hx hb dX4_place_23 rfl (lv_at hl 2 rfl) ?_
          refine va_get (D := (dC, dI)) (ci := 4) (v := .ref q_row) (C := RX4) (T := TX4) (N := 9) hx hb hts hi_4 hown hK hP 0 rfl rfl 0 (by decide) hf_12 (fun _ h9 => h9) rfl dX4_place_24 ?_
          refine va_get (D := (dC, dI)) (ci := 0) (v := .ref q_cell) (C := RX0) (T := TX0) (N := 2) hx hb hts hi_0 hown hK hP 1 rfl rfl 0 (by decide) hf_110 (fun _ h9 => h9) rfl dX4_place_27 ?_
          refine lv_iload hx hb dX4_place_30 (lv_at hl 0 rfl) ?_
          refine va_iald hx hb hK hP 2 0 rfl rfl (ki_in (om_10 LP1_h0) (om_1 a1 i_2)) dX4_place_32 ?_
          refine lv_topi (fun y_3 ey_3 => ?_)
          have j_3 : y_3.toInt = (f i.toNatClampNeg).toInt := congrArg Int32.toInt ey_3
          refine lv_iload_n hx hb dX4_place_33 rfl (lv_at hl 3 rfl) ?_
          refine lv_icmp_ne (tgt := 48) hx hb dX4_place_34 (by decide) (fun c_4 => ?_) (fun c_4 => ?_)
          · have i_4 : ¬ y_3.toInt = p0.toInt := kc_ne c_4
            obtain ⟨x_5, ex_5⟩ : ∃ y : Int32, y = i + 1 := ⟨_, rfl⟩
            have i_5 : x_5.toInt = i.toInt + 1 := ki_add ex_5 rfl rfl (om_13 LP1_h0) (om_3 a1 i_2)
            refine lv_iinc (v := x_5) (lv' := [(4, .int x_5), (3, .int seen), (0, .ref m_), (1, .int p0), (2, .int p1)]) hx hb dX4_place_48 hl (k := 0) rfl (by rw [ex_5]; rfl) (by decide) rfl (fun ls hl => ?_)
            refine lv_goto (tgt := 11) hx hb dX4_place_51 (by decide) ?_
            exact ih1 x_5 seen (om_34 LP1_h0 i_5) (om_mu hn1 (om_5 i_5) (om_6 i_2)) ls (lv_sub hl [0, 1, 2, 3, 4] rfl)
          · have i_4 : y_3.toInt = p0.toInt := kc_eq c_4
            refine lv_iload_n hx hb dX4_place_37 rfl (lv_at hl 1 rfl) ?_
            refine lv_iload_n hx hb dX4_place_38 rfl (lv_at hl 4 rfl) ?_
            refine lv_icmp_ne (tgt := 45) hx hb dX4_place_39 (by decide) (fun c_6 => ?_) (fun c_6 => ?_)
            · have i_6 : ¬ seen.toInt = p1.toInt := kc_ne c_6
              obtain ⟨x_7, ex_7⟩ : ∃ y : Int32, y = seen + 1 := ⟨_, rfl⟩
              refine lv_iinc (v := x_7) (lv' := [(3, .int x_7), (4, .int i), (0, .ref m_), (1, .int p0), (2, .int p1)]) hx hb dX4_place_45 hl (k := 1) rfl (by rw [ex_7]; rfl) (by decide) rfl (fun ls hl => ?_)
              obtain ⟨x_8, ex_8⟩ : ∃ y : Int32, y = i + 1 := ⟨_, rfl⟩
              have i_8 : x_8.toInt = i.toInt + 1 := ki_add ex_8 rfl rfl (om_13 LP1_h0) (om_3 a1 i_2)
              refine lv_iinc (v := x_8) (lv' := [(4, .int x_8), (3, .int x_7), (0, .ref m_), (1, .int p0), (2, .int p1)]) hx hb dX4_place_48 hl (k := 1) rfl (by rw [ex_8]; rfl) (by decide) rfl (fun ls hl => ?_)
              refine lv_goto (tgt := 11) hx hb dX4_place_51 (by decide) ?_
              exact ih1 x_8 x_7 (om_34 LP1_h0 i_8) (om_mu hn1 (om_5 i_8) (om_6 i_2)) ls (lv_sub hl [0, 1, 2, 3, 4] rfl)
            · have i_6 : seen.toInt = p1.toInt := kc_eq c_6
              refine lv_iload hx hb dX4_place_42 (lv_at hl 0 rfl) ?_
              exact W.iret (v := i) hx hb hr (hlocks := hlocks) (fun t ht hW => ⟨i, rfl, trivial, ht⟩) (fun q hq => by cases hq) dX4_place_44
    have k_9 : (0 : Int32).toInt = 0 := rfl
    have k_10 : (0 : Int32).toInt = 0 := rfl
    exact LP1 ((len.toInt - 0 : Int).toNat + 1) 0 0 om_35 (Nat.lt_succ_self _) ls (lv_sub hl [0, 1, 2, 3, 4] rfl)
  · have i_1 : p1.toInt < 0 := kc_nle c_1
    refine lv_iconst (v := (-1)) hx hb dX4_place_4 (by decide) ?_
    exact W.iret (v := (-1)) hx hb hr (hlocks := hlocks) (fun t ht hW => ⟨(-1), rfl, trivial, ht⟩) (fun q hq => by cases hq) dX4_place_5

set_option maxHeartbeats 4000000 in
set_option maxRecDepth 100000 in
theorem c_X4_majority (l : Launch) (dC : Nat → ClassId) (dI : Nat → Nat → Nat) (m_ : Nat) (q_row : Nat) (q_t : Nat) (t_ : Nat) (h0 : Nat) (k0 : Nat) (w_ : Nat) (z_ : Nat) (slots : Int32) (old : Int32) (q_cell : Nat) (cyI : ClassId) (len : Int32) (f : Nat → Int32) (p0 : Int32) (p1 : Int32) (a0 : 0 ≤ len.toInt) (a1 : len.toInt ≤ 160) : Met l yX4_majority wsX4_majority ({ frames := 2, cells := 0, slots := 0, locals := 90 }) (va_Pc [.ref m_, .int p0, .int p1] (fun U => va_P (dC, dI) vwCl [kx_4 m_ q_row q_t t_ h0 k0 w_ z_ slots old, kx_0 q_row q_cell len, kx_a q_cell cyI 160 f] U.heap ∧ va_K (dC, dI) vwCl [(cyI, .int)] U ∧ va_Nw (.methodLinkNest RX0 28 yX4_isHeavy RX4) U)) (vp_Si (fun r : Int32 => True)) 0 0 (fun _ => False) := by
  refine Met.ofW (cc := cX4_majority) (maxL := 3) (ret := (some .int)) (by decide) rfl ?_
  intro p e s m args below meth c s₁ B hml hv
  obtain ⟨rfl, hP, hK, hN0⟩ := hv
  have hx := B.exec
  have hb := B.bytes
  have hr := B.returns
  have hts := atoms_spec (ws := wsX4_majority) B.pre
  have hown : s.vm.findClass RX4 = some m.cls := findClass_of_methodNamed B.named
  have hlocks := B.notSynchronized
  have hP : va_P (dC, dI) vwCl [kx_4 m_ q_row q_t t_ h0 k0 w_ z_ slots old, kx_0 q_row q_cell len, kx_a q_cell cyI 160 f] s.heap := hP
  have hl := lv_entry ([.ref m_, .int p0, .int p1]) (n := 3) (Nat.le_of_ble_eq_true rfl)
  rw [lg_entry_eq]
  generalize (lg_sl ([.ref m_, .int p0, .int p1]) ++ List.replicate (3 - (lg_sl ([.ref m_, .int p0, .int p1])).length) Slot.unset).toArray = ls at hl ⊢
  have hl : lv_has ls 3 [(0, .ref m_), (1, .int p0), (2, .int p1)] := hl
  have hf_12 := hts (.fieldLink RX4 12 "MajorityIndex" "row" "LMajorityIndex$Row;") (List.mem_of_getElem? (i := 1) rfl)
  have hi_4 : ∀ w ∈ u_ws RX4 TX4 9, w ∈ wsX4_majority := fun w h => List.mem_cons_of_mem _ (List.mem_append_left _ (List.mem_append_right _ h))
  have hk_102 := hts (.constant RX4 102 (-40000)) (List.mem_of_getElem? (i := 2) rfl)
  refine lv_aload_n hx hb dX4_majority_0 rfl (lv_at hl 0 rfl) ?_
  refine va_get (D := (dC, dI)) (ci := 4) (v := .ref q_row) (C := RX4) (T := TX4) (N := 9) hx hb hts hi_4 hown hK hP 0 rfl rfl 0 (by decide) hf_12 (fun _ h9 => h9) rfl dX4_majority_1 ?_
  refine lv_iload_n hx hb dX4_majority_4 rfl (lv_at hl 1 rfl) ?_
  refine lv_iload_n hx hb dX4_majority_5 rfl (lv_at hl 2 rfl) ?_
  have hPc := hP.sub (ws' := [kx_0 q_row q_cell len]) [1] rfl
  have hKc := hK.sub (tys' := []) [] rfl
  refine vp_callSi (W.runV (As := [.int p0, .int p1]) (rest := []) ⟨hx, hb, hml, hown, hts⟩ (c_X0_hasRange l dC dI q_row q_cell len p0 p1) (cwV 2 hts gX4_majority_X0_hasRange rfl rfl rfl (by decide +kernel) ⟨Nat.le_of_ble_eq_true rfl, Nat.le_of_ble_eq_true rfl⟩) ⟨fun a U g mk q => by obtain ⟨q0, qP, qK⟩ := q; exact ⟨q0, qP, va_K.moved (u := U) (U := U.calling g mk a) (Vm.Alike.refl U.vm) qK⟩, kx_rc0 hKc hPc (q0 := 0) rfl, fun U hU hW => ⟨rfl, by rw [hU]; exact hPc, va_K.moved hW.alike hKc⟩⟩ rfl rfl hl.1 rfl (lv_room (Nat.le_of_ble_eq_true rfl)) dX4_majority_6 ⟨Nat.le_of_ble_eq_true rfl, Nat.le_of_ble_eq_true rfl⟩) (fun r_1 w_1 => ?_)
  rcases w_1 with ⟨rfl, w_1⟩ | ⟨rfl, w_1⟩
  · have w_1 : (0 ≤ p0.toInt ∧ p0.toInt < p1.toInt ∧ p1.toInt ≤ len.toInt) := w_1
    refine lv_if_eq (tgt := 24) hx hb dX4_majority_9 (by decide) (fun c_2 => ?_) (fun c_2 => ?_)
    · exact absurd c_2 (by decide)
    · refine lv_aload_n hx hb dX4_majority_12 rfl (lv_at hl 0 rfl) ?_
      refine va_get (D := (dC, dI)) (ci := 4) (v := .ref q_row) (C := RX4) (T := TX4) (N := 9) hx hb hts hi_4 hown hK hP 0 rfl rfl 0 (by decide) hf_12 (fun _ h9 => h9) rfl dX4_majority_13 ?_
      refine lv_iload_n hx hb dX4_majority_16 rfl (lv_at hl 1 rfl) ?_
      refine lv_iload_n hx hb dX4_majority_17 rfl (lv_at hl 2 rfl) ?_
      have hPc := hP.sub (ws' := [kx_0 q_row q_cell len, kx_a q_cell cyI 160 f]) [1, 2] rfl
      have hKc := hK
      refine vp_callSi (W.runV (As := [.int p0, .int p1]) (rest := []) ⟨hx, hb, hml, hown, hts⟩ (c_X0_leader l dC dI q_row q_cell cyI len f p0 p1 (om_10 w_1.1) (om_167 a1 w_1.2.2)) (cwV 2 hts gX4_majority_X0_leader rfl rfl rfl (by decide +kernel) ⟨Nat.le_of_ble_eq_true rfl, Nat.le_of_ble_eq_true rfl⟩) ⟨fun a U g mk q => by obtain ⟨q0, qP, qK, qn0⟩ := q; exact ⟨q0, qP, va_K.moved (u := U) (U := U.calling g mk a) (Vm.Alike.refl U.vm) qK, va_Nw.same (u := U) (U := U.calling g mk a) rfl rfl qn0⟩, kx_rc0 hKc hPc (q0 := 0) rfl, fun U hU hW => ⟨rfl, by rw [hU]; exact hPc, va_K.moved hW.alike hKc, va_Nw.warmM hW hN0⟩⟩ rfl rfl hl.1 rfl (lv_room (Nat.le_of_ble_eq_true rfl)) dX4_majority_18 ⟨Nat.le_of_ble_eq_true rfl, Nat.le_of_ble_eq_true rfl⟩) (fun r_3 w_3 => ?_)
      refine lv_goto (tgt := 26) hx hb dX4_majority_21 (by decide) ?_
      exact W.iret (v := r_3) hx hb hr (hlocks := hlocks) (fun t ht hW => ⟨r_3, rfl, trivial, ht⟩) (fun q hq => by cases hq) dX4_majority_26
  · have w_1 : (p0.toInt < 0 ∨ p1.toInt ≤ p0.toInt ∨ len.toInt < p1.toInt) := w_1
    refine lv_if_eq (tgt := 24) hx hb dX4_majority_9 (by decide) (fun c_4 => ?_) (fun c_4 => ?_)
    · refine lv_ldc (v := (-40000)) hx hb hown hk_102 dX4_majority_24 ?_
      exact W.iret (v := (-40000)) hx hb hr (hlocks := hlocks) (fun t ht hW => ⟨(-40000), rfl, trivial, ht⟩) (fun q hq => by cases hq) dX4_majority_26
    · exact absurd c_4 (by decide)

set_option maxHeartbeats 4000000 in
set_option maxRecDepth 100000 in
theorem c_X4_margin (l : Launch) (dC : Nat → ClassId) (dI : Nat → Nat → Nat) (m_ : Nat) (q_row : Nat) (q_t : Nat) (t_ : Nat) (h0 : Nat) (k0 : Nat) (w_ : Nat) (z_ : Nat) (slots : Int32) (old : Int32) (q_cell : Nat) (cyI : ClassId) (len : Int32) (f : Nat → Int32) (p0 : Int32) (p1 : Int32) (p2 : Int32) (a0 : 0 ≤ len.toInt) (a1 : len.toInt ≤ 160) : Met l yX4_margin wsX4_margin ({ frames := 1, cells := 0, slots := 0, locals := 45 }) (va_Pc [.ref m_, .int p0, .int p1, .int p2] (fun U => va_P (dC, dI) vwCl [kx_4 m_ q_row q_t t_ h0 k0 w_ z_ slots old, kx_0 q_row q_cell len, kx_a q_cell cyI 160 f] U.heap ∧ va_K (dC, dI) vwCl [(cyI, .int)] U)) (vp_Si (fun r : Int32 => True)) 0 0 (fun _ => False) := by
  refine kx_stS (ws := wsX4_margin) (cc := cX4_margin) (maxL := 4) (ret := (some .int)) (by decide) rfl (Nat.le_of_ble_eq_true rfl) ?_
  intro p e s m below meth c ls hx hb hr hlocks hts hown hml hP hK hl
  have hown : s.vm.findClass RX4 = some m.cls := hown
  have hl : lv_has ls 4 [(0, .ref m_), (1, .int p0), (2, .int p1), (3, .int p2)] := hl
  have hf_12 := hts (.fieldLink RX4 12 "MajorityIndex" "row" "LMajorityIndex$Row;") (List.mem_of_getElem? (i := 1) rfl)
  have hi_4 : ∀ w ∈ u_ws RX4 TX4 9, w ∈ wsX4_margin := fun w h => List.mem_cons_of_mem _ (List.mem_append_left _ (List.mem_append_right _ h))
  have hk_102 := hts (.constant RX4 102 (-40000)) (List.mem_of_getElem? (i := 2) rfl)
  refine lv_iload_n hx hb dX4_margin_0 rfl (lv_at hl 1 rfl) ?_
  have hPc := hP.sub (ws' := []) [] rfl
  have hKc := hK.sub (tys' := []) [] rfl
  refine vp_callSi (W.runS (As := [.int p0]) (rest := []) ⟨hx, hb, hml, hown, hts⟩ (c_X4_isValue l dC dI p0) (va_cwS 1 hts gX4_margin_X4_isValue rfl rfl rfl (by decide +kernel) ⟨Nat.le_of_ble_eq_true rfl, Nat.le_of_ble_eq_true rfl⟩) ⟨fun a U g mk q => by obtain ⟨q0, qP, qK⟩ := q; exact ⟨q0, qP, va_K.moved (u := U) (U := U.calling g mk a) (Vm.Alike.refl U.vm) qK⟩, fun U hU hW => ⟨rfl, by rw [hU]; exact hPc, va_K.moved hW.alike hKc⟩⟩ rfl rfl hl.1 rfl (lv_room (Nat.le_of_ble_eq_true rfl)) dX4_margin_1 ⟨Nat.le_of_ble_eq_true rfl, Nat.le_of_ble_eq_true rfl⟩) (fun r_1 w_1 => ?_)
  rcases w_1 with ⟨rfl, w_1⟩ | ⟨rfl, w_1⟩
  · have w_1 : (-32768 ≤ p0.toInt ∧ p0.toInt ≤ 32767) := w_1
    refine lv_if_eq (tgt := 19) hx hb dX4_margin_4 (by decide) (fun c_2 => ?_) (fun c_2 => ?_)
    · exact absurd c_2 (by decide)
    · refine lv_aload_n hx hb dX4_margin_7 rfl (lv_at hl 0 rfl) ?_
      refine va_get (D := (dC, dI)) (ci := 4) (v := .ref q_row) (C := RX4) (T := TX4) (N := 9) hx hb hts hi_4 hown hK hP 0 rfl rfl 0 (by decide) hf_12 (fun _ h9 => h9) rfl dX4_margin_8 ?_
      refine lv_iload_n hx hb dX4_margin_11 rfl (lv_at hl 2 rfl) ?_
      refine lv_iload_n hx hb dX4_margin_12 rfl (lv_at hl 3 rfl) ?_
      have hPc := hP.sub (ws' := [kx_0 q_row q_cell len]) [1] rfl
      have hKc := hK.sub (tys' := []) [] rfl
      refine vp_callSi (W.runV (As := [.int p1, .int p2]) (rest := []) ⟨hx, hb, hml, hown, hts⟩ (c_X0_hasRange l dC dI q_row q_cell len p1 p2) (cwV 2 hts gX4_margin_X0_hasRange rfl rfl rfl (by decide +kernel) ⟨Nat.le_of_ble_eq_true rfl, Nat.le_of_ble_eq_true rfl⟩) ⟨fun a U g mk q => by obtain ⟨q0, qP, qK⟩ := q; exact ⟨q0, qP, va_K.moved (u := U) (U := U.calling g mk a) (Vm.Alike.refl U.vm) qK⟩, kx_rc0 hKc hPc (q0 := 0) rfl, fun U hU hW => ⟨rfl, by rw [hU]; exact hPc, va_K.moved hW.alike hKc⟩⟩ rfl rfl hl.1 rfl (lv_room (Nat.le_of_ble_eq_true rfl)) dX4_margin_13 ⟨Nat.le_of_ble_eq_true rfl, Nat.le_of_ble_eq_true rfl⟩) (fun r_3 w_3 => ?_)
      rcases w_3 with ⟨rfl, w_3⟩ | ⟨rfl, w_3⟩
      · have w_3 : (0 ≤ p1.toInt ∧ p1.toInt < p2.toInt ∧ p2.toInt ≤ len.toInt) := w_3
        refine lv_if_ne (tgt := 22) hx hb dX4_margin_16 (by decide) (fun c_4 => ?_) (fun c_4 => ?_)
        · refine lv_iconst (v := 2) hx hb dX4_margin_22 (by decide) ?_
          refine lv_aload_n hx hb dX4_margin_23 rfl (lv_at hl 0 rfl) ?_
          refine va_get (D := (dC, dI)) (ci := 4) (v := .ref q_row) (C := RX4) (T := TX4) (N := 9) hx hb hts hi_4 hown hK hP 0 rfl rfl 0 (by decide) hf_12 (fun _ h9 => h9) rfl dX4_margin_24 ?_
          refine lv_iload_n hx hb dX4_margin_27 rfl (lv_at hl 1 rfl) ?_
          refine lv_iload_n hx hb dX4_margin_28 rfl (lv_at hl 2 rfl) ?_
          refine lv_iload_n hx hb dX4_margin_29 rfl (lv_at hl 3 rfl) ?_
          have hPc := hP.sub (ws' := [kx_0 q_row q_cell len, kx_a q_cell cyI 160 f]) [1, 2] rfl
          have hKc := hK
          refine vp_callSi (W.runV (As := [.int p0, .int p1, .int p2]) (rest := [.int 2]) ⟨hx, hb, hml, hown, hts⟩ (c_X0_oftenIn l dC dI q_row q_cell cyI len f p0 p1 p2 (om_10 w_3.1) (om_167 a1 w_3.2.2)) (cwV 3 hts gX4_margin_X0_oftenIn rfl rfl rfl (by decide +kernel) ⟨Nat.le_of_ble_eq_true rfl, Nat.le_of_ble_eq_true rfl⟩) ⟨fun a U g mk q => by obtain ⟨q0, qP, qK⟩ := q; exact ⟨q0, qP, va_K.moved (u := U) (U := U.calling g mk a) (Vm.Alike.refl U.vm) qK⟩, kx_rc0 hKc hPc (q0 := 0) rfl, fun U hU hW => ⟨rfl, by rw [hU]; exact hPc, va_K.moved hW.alike hKc⟩⟩ rfl rfl hl.1 rfl (lv_room (Nat.le_of_ble_eq_true rfl)) dX4_margin_30 ⟨Nat.le_of_ble_eq_true rfl, Nat.le_of_ble_eq_true rfl⟩) (fun r_5 w_5 => ?_)
          have w_5 : r_5.toInt = (cnt f p0 p1.toNatClampNeg (p2.toInt - p1.toInt).toNat : Int) := w_5
          refine lv_imul hx hb dX4_margin_33 ?_
          refine lv_topi (fun y_6 ey_6 => ?_)
          refine lv_iload_n hx hb dX4_margin_34 rfl (lv_at hl 3 rfl) ?_
          refine lv_iload_n hx hb dX4_margin_35 rfl (lv_at hl 2 rfl) ?_
          refine lv_isub hx hb dX4_margin_36 ?_
          refine lv_topi (fun y_7 ey_7 => ?_)
          have i_7 : y_7.toInt = p2.toInt - p1.toInt := ki_sub ey_7 rfl rfl (om_168 w_3.2.1) (om_169 a1 w_3.1 w_3.2.2)
          refine lv_isub hx hb dX4_margin_37 ?_
          refine lv_topi (fun y_8 ey_8 => ?_)
          exact W.iret (v := y_8) hx hb hr (hlocks := hlocks) (fun t ht hW => ⟨y_8, rfl, trivial, ht⟩) (fun q hq => by cases hq) dX4_margin_38
        · exact absurd c_4 (by decide)
      · have w_3 : (p1.toInt < 0 ∨ p2.toInt ≤ p1.toInt ∨ len.toInt < p2.toInt) := w_3
        refine lv_if_ne (tgt := 22) hx hb dX4_margin_16 (by decide) (fun c_9 => ?_) (fun c_9 => ?_)
        · exact absurd c_9 (by decide)
        · refine lv_ldc (v := (-40000)) hx hb hown hk_102 dX4_margin_19 ?_
          exact W.iret (v := (-40000)) hx hb hr (hlocks := hlocks) (fun t ht hW => ⟨(-40000), rfl, trivial, ht⟩) (fun q hq => by cases hq) dX4_margin_21
  · have w_1 : (p0.toInt < -32768 ∨ 32767 < p0.toInt) := w_1
    refine lv_if_eq (tgt := 19) hx hb dX4_margin_4 (by decide) (fun c_10 => ?_) (fun c_10 => ?_)
    · refine lv_ldc (v := (-40000)) hx hb hown hk_102 dX4_margin_19 ?_
      exact W.iret (v := (-40000)) hx hb hr (hlocks := hlocks) (fun t ht hW => ⟨(-40000), rfl, trivial, ht⟩) (fun q hq => by cases hq) dX4_margin_21
    · exact absurd c_10 (by decide)

set_option maxHeartbeats 4000000 in
set_option maxRecDepth 100000 in
theorem c_X4_farthestHeavy (l : Launch) (dC : Nat → ClassId) (dI : Nat → Nat → Nat) (m_ : Nat) (q_row : Nat) (q_t : Nat) (t_ : Nat) (h0 : Nat) (k0 : Nat) (w_ : Nat) (z_ : Nat) (slots : Int32) (old : Int32) (q_cell : Nat) (cyI : ClassId) (len : Int32) (f : Nat → Int32) (p0 : Int32) (p1 : Int32) (p2 : Int32) (p3 : Int32) (a0 : 0 ≤ len.toInt) (a1 : len.toInt ≤ 160) (b0 : 0 ≤ p1.toInt) : Met l yX4_farthestHeavy wsX4_farthestHeavy ({ frames := 1, cells := 0, slots := 0, locals := 45 }) (va_Pc [.ref m_, .int p0, .int p1, .int p2, .int p3] (fun U => va_P (dC, dI) vwCl [kx_4 m_ q_row q_t t_ h0 k0 w_ z_ slots old, kx_0 q_row q_cell len, kx_a q_cell cyI 160 f] U.heap ∧ va_K (dC, dI) vwCl [(cyI, .int)] U)) (vp_Si (fun r : Int32 => True)) 0 0 (fun _ => False) := by
  refine kx_stS (ws := wsX4_farthestHeavy) (cc := cX4_farthestHeavy) (maxL := 8) (ret := (some .int)) (by decide) rfl (Nat.le_of_ble_eq_true rfl) ?_
  intro p e s m below meth c ls hx hb hr hlocks hts hown hml hP hK hl
  have hown : s.vm.findClass RX4 = some m.cls := hown
  have hl : lv_has ls 8 [(0, .ref m_), (1, .int p0), (2, .int p1), (3, .int p2), (4, .int p3)] := hl
  have hf_12 := hts (.fieldLink RX4 12 "MajorityIndex" "row" "LMajorityIndex$Row;") (List.mem_of_getElem? (i := 1) rfl)
  have hi_4 : ∀ w ∈ u_ws RX4 TX4 9, w ∈ wsX4_farthestHeavy := fun w h => List.mem_cons_of_mem _ (List.mem_append_left _ (List.mem_append_right _ h))
  have hf_57 := hts (.fieldLink RX4 57 "MajorityIndex$Row" "length" "I") (List.mem_of_getElem? (i := 2) rfl)
  have hi_0 : ∀ w ∈ u_ws RX0 TX0 2, w ∈ wsX4_farthestHeavy := fun w h => List.mem_cons_of_mem _ (List.mem_append_right _ h)
  have hf_110 := hts (.fieldLink RX4 110 "MajorityIndex$Row" "cell" "[I") (List.mem_of_getElem? (i := 3) rfl)
  refine lv_iconst (v := (-1)) hx hb dX4_farthestHeavy_0 (by decide) ?_
  refine lv_istore (lv' := [(5, .int (-1)), (0, .ref m_), (1, .int p0), (2, .int p1), (3, .int p2), (4, .int p3)]) hx hb dX4_farthestHeavy_1 hl (by decide) rfl (fun ls hl => ?_)
  refine lv_iconst (v := 0) hx hb dX4_farthestHeavy_3 (by decide) ?_
  refine lv_istore (lv' := [(6, .int 0), (5, .int (-1)), (0, .ref m_), (1, .int p0), (2, .int p1), (3, .int p2), (4, .int p3)]) hx hb dX4_farthestHeavy_4 hl (by decide) rfl (fun ls hl => ?_)
  refine lv_iload_n hx hb dX4_farthestHeavy_6 rfl (lv_at hl 4 rfl) ?_
  refine lv_istore (lv' := [(7, .int p1), (6, .int 0), (5, .int (-1)), (0, .ref m_), (1, .int p0), (2, .int p1), (3, .int p2), (4, .int p3)]) hx hb dX4_farthestHeavy_7 hl (by decide) rfl (fun ls hl => ?_)
  have LP1 : ∀ (n : Nat) (i : Int32) (fa : Int32) (of : Int32), (p1.toInt ≤ i.toInt) → (len.toInt - i.toInt).toNat < n → ∀ (ls : Array Slot), lv_has ls 8 [(7, .int i), (6, .int of), (5, .int fa), (0, .ref m_), (1, .int p0), (2, .int p1), (3, .int p2), (4, .int p3)] → W p l e (headSpec wsX4_farthestHeavy ({ frames := 1, cells := 0, slots := 0, locals := 45 })).room s m ([.ref m_, .int p0, .int p1, .int p2, .int p3] : List Value).toArray below meth c s.heap [] 0 0 (MQ below (vp_Si (fun r : Int32 => True)) ([.ref m_, .int p0, .int p1, .int p2, .int p3] : List Value).toArray s 0 0 (fun _ => False)) (F0 m 9 ls []) := by
    intro n
    induction n with
    | zero => intro i fa of LP1_h0 hn; exact absurd hn (Nat.not_lt_zero _)
    | succ n ih1 =>
      intro i fa of LP1_h0 hn1 ls hl
      refine lv_iload hx hb dX4_farthestHeavy_9 (lv_at hl 0 rfl) ?_
      refine lv_aload_n hx hb dX4_farthestHeavy_11 rfl (lv_at hl 3 rfl) ?_
      refine va_get (D := (dC, dI)) (ci := 4) (v := .ref q_row) (C := RX4) (T := TX4) (N := 9) hx hb hts hi_4 hown hK hP 0 rfl rfl 0 (by decide) hf_12 (fun _ h9 => h9) rfl dX4_farthestHeavy_12 ?_
      refine va_get (D := (dC, dI)) (ci := 0) (v := .int len) (C := RX0) (T := TX0) (N := 2) hx hb hts hi_0 hown hK hP 1 rfl rfl 1 (by decide) hf_57 (fun _ h9 => h9) rfl dX4_farthestHeavy_15 ?_
      refine lv_icmp_ge (tgt := 67) hx hb dX4_farthestHeavy_18 (by decide) (fun c_1 => ?_) (fun c_1 => ?_)
      · have i_1 : len.toInt ≤ i.toInt := kc_le c_1
        refine lv_iload hx hb dX4_farthestHeavy_67 (lv_at hl 2 rfl) ?_
        exact W.iret (v := fa) hx hb hr (hlocks := hlocks) (fun t ht hW => ⟨fa, rfl, trivial, ht⟩) (fun q hq => by cases hq) dX4_farthestHeavy_69
      · have i_1 : i.toInt < len.toInt := kc_nle c_1
        refine lv_aload_n hx hb dX4_farthestHeavy_21 rfl (lv_at hl 3 rfl) ?_
        refine va_get (D := (dC, dI)) (ci := 4) (v := .ref q_row) (C := RX4) (T := TX4) (N := 9) hx hb hts hi_4 hown hK hP 0 rfl rfl 0 (by decide) hf_12 (fun _ h9 => h9) rfl dX4_farthestHeavy_22 ?_
        refine va_get (D := (dC, dI)) (ci := 0) (v := .ref q_cell) (C := RX0) (T := TX0) (N := 2) hx hb hts hi_0 hown hK hP 1 rfl rfl 0 (by decide) hf_110 (fun _ h9 => h9) rfl dX4_farthestHeavy_25 ?_
        refine lv_iload hx hb dX4_farthestHeavy_28 (lv_at hl 0 rfl) ?_
        refine va_iald hx hb hK hP 2 0 rfl rfl (ki_in (om_0 b0 LP1_h0) (om_1 a1 i_1)) dX4_farthestHeavy_30 ?_
        refine lv_topi (fun y_2 ey_2 => ?_)
        have j_2 : y_2.toInt = (f i.toNatClampNeg).toInt := congrArg Int32.toInt ey_2
        refine lv_iload_n hx hb dX4_farthestHeavy_31 rfl (lv_at hl 4 rfl) ?_
        refine lv_icmp_ne (tgt := 38) hx hb dX4_farthestHeavy_32 (by decide) (fun c_3 => ?_) (fun c_3 => ?_)
        · have i_3 : ¬ y_2.toInt = p0.toInt := kc_ne c_3
          refine lv_iload hx hb dX4_farthestHeavy_38 (lv_at hl 1 rfl) ?_
          refine lv_iload hx hb dX4_farthestHeavy_40 (lv_at hl 0 rfl) ?_
          refine lv_iconst (v := 1) hx hb dX4_farthestHeavy_42 (by decide) ?_
          refine lv_iadd hx hb dX4_farthestHeavy_43 ?_
          refine lv_topi (fun y_4 ey_4 => ?_)
          have i_4 : y_4.toInt = i.toInt + 1 := ki_add ey_4 rfl rfl (om_2 b0 LP1_h0) (om_3 a1 i_1)
          refine lv_iload_n hx hb dX4_farthestHeavy_44 rfl (lv_at hl 5 rfl) ?_
          refine lv_isub hx hb dX4_farthestHeavy_45 ?_
          refine lv_topi (fun y_5 ey_5 => ?_)
          refine lv_iload_n hx hb dX4_farthestHeavy_46 rfl (lv_at hl 6 rfl) ?_
          refine lv_iload hx hb dX4_farthestHeavy_47 (lv_at hl 7 rfl) ?_
          have hPc := hP.sub (ws' := []) [] rfl
          have hKc := hK.sub (tys' := []) [] rfl
          refine vp_callSi (W.runS (As := [.int of, .int y_5, .int p2, .int p3]) (rest := []) ⟨hx, hb, hml, hown, hts⟩ (c_X4_isHeavy l dC dI of y_5 p2 p3) (va_cwS 4 hts gX4_farthestHeavy_X4_isHeavy rfl rfl rfl (by decide +kernel) ⟨Nat.le_of_ble_eq_true rfl, Nat.le_of_ble_eq_true rfl⟩) ⟨fun a U g mk q => by obtain ⟨q0, qP, qK⟩ := q; exact ⟨q0, qP, va_K.moved (u := U) (U := U.calling g mk a) (Vm.Alike.refl U.vm) qK⟩, fun U hU hW => ⟨rfl, by rw [hU]; exact hPc, va_K.moved hW.alike hKc⟩⟩ rfl rfl hl.1 rfl (lv_room (Nat.le_of_ble_eq_true rfl)) dX4_farthestHeavy_49 ⟨Nat.le_of_ble_eq_true rfl, Nat.le_of_ble_eq_true rfl⟩) (fun r_6 w_6 => ?_)
          rcases w_6 with ⟨rfl, w_6⟩ | ⟨rfl, w_6⟩
          · have w_6 : (0 : Int) ≤ 1 := w_6
            refine lv_if_eq (tgt := 61) hx hb dX4_farthestHeavy_52 (by decide) (fun c_7 => ?_) (fun c_7 => ?_)
            · exact absurd c_7 (by decide)
            · refine lv_iload hx hb dX4_farthestHeavy_55 (lv_at hl 0 rfl) ?_
              refine lv_iconst (v := 1) hx hb dX4_farthestHeavy_57 (by decide) ?_
              refine lv_iadd hx hb dX4_farthestHeavy_58 ?_
              refine lv_topi (fun y_8 ey_8 => ?_)
              have i_8 : y_8.toInt = i.toInt + 1 := ki_add ey_8 rfl rfl (om_2 b0 LP1_h0) (om_3 a1 i_1)
              refine lv_istore (lv' := [(5, .int y_8), (7, .int i), (6, .int of), (0, .ref m_), (1, .int p0), (2, .int p1), (3, .int p2), (4, .int p3)]) hx hb dX4_farthestHeavy_59 hl (by decide) rfl (fun ls hl => ?_)
              obtain ⟨x_9, ex_9⟩ : ∃ y : Int32, y = i + 1 := ⟨_, rfl⟩
              have i_9 : x_9.toInt = i.toInt + 1 := ki_add ex_9 rfl rfl (om_2 b0 LP1_h0) (om_3 a1 i_1)
              refine lv_iinc (v := x_9) (lv' := [(7, .int x_9), (5, .int y_8), (6, .int of), (0, .ref m_), (1, .int p0), (2, .int p1), (3, .int p2), (4, .int p3)]) hx hb dX4_farthestHeavy_61 hl (k := 1) rfl (by rw [ex_9]; rfl) (by decide) rfl (fun ls hl => ?_)
              refine lv_goto (tgt := 9) hx hb dX4_farthestHeavy_64 (by decide) ?_
              exact ih1 x_9 y_8 of (om_4 LP1_h0 i_9) (om_mu hn1 (om_5 i_9) (om_6 i_1)) ls (lv_sub hl [0, 2, 1, 3, 4, 5, 6, 7] rfl)
          · have w_6 : (0 : Int) ≤ 1 := w_6
            refine lv_if_eq (tgt := 61) hx hb dX4_farthestHeavy_52 (by decide) (fun c_10 => ?_) (fun c_10 => ?_)
            · obtain ⟨x_11, ex_11⟩ : ∃ y : Int32, y = i + 1 := ⟨_, rfl⟩
              have i_11 : x_11.toInt = i.toInt + 1 := ki_add ex_11 rfl rfl (om_2 b0 LP1_h0) (om_3 a1 i_1)
              refine lv_iinc (v := x_11) (lv' := [(7, .int x_11), (6, .int of), (5, .int fa), (0, .ref m_), (1, .int p0), (2, .int p1), (3, .int p2), (4, .int p3)]) hx hb dX4_farthestHeavy_61 hl (k := 0) rfl (by rw [ex_11]; rfl) (by decide) rfl (fun ls hl => ?_)
              refine lv_goto (tgt := 9) hx hb dX4_farthestHeavy_64 (by decide) ?_
              exact ih1 x_11 fa of (om_4 LP1_h0 i_11) (om_mu hn1 (om_5 i_11) (om_6 i_1)) ls (lv_sub hl [0, 1, 2, 3, 4, 5, 6, 7] rfl)
            · exact absurd c_10 (by decide)
        · have i_3 : y_2.toInt = p0.toInt := kc_eq c_3
          obtain ⟨x_12, ex_12⟩ : ∃ y : Int32, y = of + 1 := ⟨_, rfl⟩
          refine lv_iinc (v := x_12) (lv' := [(6, .int x_12), (7, .int i), (5, .int fa), (0, .ref m_), (1, .int p0), (2, .int p1), (3, .int p2), (4, .int p3)]) hx hb dX4_farthestHeavy_35 hl (k := 1) rfl (by rw [ex_12]; rfl) (by decide) rfl (fun ls hl => ?_)
          refine lv_iload hx hb dX4_farthestHeavy_38 (lv_at hl 0 rfl) ?_
          refine lv_iload hx hb dX4_farthestHeavy_40 (lv_at hl 1 rfl) ?_
          refine lv_iconst (v := 1) hx hb dX4_farthestHeavy_42 (by decide) ?_
          refine lv_iadd hx hb dX4_farthestHeavy_43 ?_
          refine lv_topi (fun y_13 ey_13 => ?_)
          have i_13 : y_13.toInt = i.toInt + 1 := ki_add ey_13 rfl rfl (om_2 b0 LP1_h0) (om_3 a1 i_1)
          refine lv_iload_n hx hb dX4_farthestHeavy_44 rfl (lv_at hl 5 rfl) ?_
          refine lv_isub hx hb dX4_farthestHeavy_45 ?_
          refine lv_topi (fun y_14 ey_14 => ?_)
          refine lv_iload_n hx hb dX4_farthestHeavy_46 rfl (lv_at hl 6 rfl) ?_
          refine lv_iload hx hb dX4_farthestHeavy_47 (lv_at hl 7 rfl) ?_
          have hPc := hP.sub (ws' := []) [] rfl
          have hKc := hK.sub (tys' := []) [] rfl
          refine vp_callSi (W.runS (As := [.int x_12, .int y_14, .int p2, .int p3]) (rest := []) ⟨hx, hb, hml, hown, hts⟩ (c_X4_isHeavy l dC dI x_12 y_14 p2 p3) (va_cwS 4 hts gX4_farthestHeavy_X4_isHeavy rfl rfl rfl (by decide +kernel) ⟨Nat.le_of_ble_eq_true rfl, Nat.le_of_ble_eq_true rfl⟩) ⟨fun a U g mk q => by obtain ⟨q0, qP, qK⟩ := q; exact ⟨q0, qP, va_K.moved (u := U) (U := U.calling g mk a) (Vm.Alike.refl U.vm) qK⟩, fun U hU hW => ⟨rfl, by rw [hU]; exact hPc, va_K.moved hW.alike hKc⟩⟩ rfl rfl hl.1 rfl (lv_room (Nat.le_of_ble_eq_true rfl)) dX4_farthestHeavy_49 ⟨Nat.le_of_ble_eq_true rfl, Nat.le_of_ble_eq_true rfl⟩) (fun r_15 w_15 => ?_)
          rcases w_15 with ⟨rfl, w_15⟩ | ⟨rfl, w_15⟩
          · have w_15 : (0 : Int) ≤ 1 := w_15
            refine lv_if_eq (tgt := 61) hx hb dX4_farthestHeavy_52 (by decide) (fun c_16 => ?_) (fun c_16 => ?_)
            · exact absurd c_16 (by decide)
            · refine lv_iload hx hb dX4_farthestHeavy_55 (lv_at hl 1 rfl) ?_
              refine lv_iconst (v := 1) hx hb dX4_farthestHeavy_57 (by decide) ?_
              refine lv_iadd hx hb dX4_farthestHeavy_58 ?_
              refine lv_topi (fun y_17 ey_17 => ?_)
              have i_17 : y_17.toInt = i.toInt + 1 := ki_add ey_17 rfl rfl (om_2 b0 LP1_h0) (om_3 a1 i_1)
              refine lv_istore (lv' := [(5, .int y_17), (6, .int x_12), (7, .int i), (0, .ref m_), (1, .int p0), (2, .int p1), (3, .int p2), (4, .int p3)]) hx hb dX4_farthestHeavy_59 hl (by decide) rfl (fun ls hl => ?_)
              obtain ⟨x_18, ex_18⟩ : ∃ y : Int32, y = i + 1 := ⟨_, rfl⟩
              have i_18 : x_18.toInt = i.toInt + 1 := ki_add ex_18 rfl rfl (om_2 b0 LP1_h0) (om_3 a1 i_1)
              refine lv_iinc (v := x_18) (lv' := [(7, .int x_18), (5, .int y_17), (6, .int x_12), (0, .ref m_), (1, .int p0), (2, .int p1), (3, .int p2), (4, .int p3)]) hx hb dX4_farthestHeavy_61 hl (k := 2) rfl (by rw [ex_18]; rfl) (by decide) rfl (fun ls hl => ?_)
              refine lv_goto (tgt := 9) hx hb dX4_farthestHeavy_64 (by decide) ?_
              exact ih1 x_18 y_17 x_12 (om_4 LP1_h0 i_18) (om_mu hn1 (om_5 i_18) (om_6 i_1)) ls (lv_sub hl [0, 2, 1, 3, 4, 5, 6, 7] rfl)
          · have w_15 : (0 : Int) ≤ 1 := w_15
            refine lv_if_eq (tgt := 61) hx hb dX4_farthestHeavy_52 (by decide) (fun c_19 => ?_) (fun c_19 => ?_)
            · obtain ⟨x_20, ex_20⟩ : ∃ y : Int32, y = i + 1 := ⟨_, rfl⟩
              have i_20 : x_20.toInt = i.toInt + 1 := ki_add ex_20 rfl rfl (om_2 b0 LP1_h0) (om_3 a1 i_1)
              refine lv_iinc (v := x_20) (lv' := [(7, .int x_20), (6, .int x_12), (5, .int fa), (0, .ref m_), (1, .int p0), (2, .int p1), (3, .int p2), (4, .int p3)]) hx hb dX4_farthestHeavy_61 hl (k := 1) rfl (by rw [ex_20]; rfl) (by decide) rfl (fun ls hl => ?_)
              refine lv_goto (tgt := 9) hx hb dX4_farthestHeavy_64 (by decide) ?_
              exact ih1 x_20 fa x_12 (om_4 LP1_h0 i_20) (om_mu hn1 (om_5 i_20) (om_6 i_1)) ls (lv_sub hl [0, 1, 2, 3, 4, 5, 6, 7] rfl)
            · exact absurd c_19 (by decide)
  have k_21 : ((-1) : Int32).toInt = -1 := rfl
  have k_22 : (0 : Int32).toInt = 0 := rfl
  exact LP1 ((len.toInt - p1.toInt : Int).toNat + 1) p1 (-1) 0 om_7 (Nat.lt_succ_self _) ls (lv_sub hl [0, 1, 2, 3, 4, 5, 6, 7] rfl)

set_option maxHeartbeats 4000000 in
set_option maxRecDepth 100000 in
theorem c_X4_longest (l : Launch) (dC : Nat → ClassId) (dI : Nat → Nat → Nat) (m_ : Nat) (q_row : Nat) (q_t : Nat) (t_ : Nat) (h0 : Nat) (k0 : Nat) (w_ : Nat) (z_ : Nat) (slots : Int32) (old : Int32) (q_cell : Nat) (cyI : ClassId) (len : Int32) (f : Nat → Int32) (p0 : Int32) (p1 : Int32) (p2 : Int32) (p3 : Int32) (a0 : 0 ≤ len.toInt) (a1 : len.toInt ≤ 160) : Met l yX4_longest wsX4_longest ({ frames := 2, cells := 0, slots := 0, locals := 90 }) (va_Pc [.ref m_, .int p0, .int p1, .int p2, .int p3] (fun U => va_P (dC, dI) vwCl [kx_4 m_ q_row q_t t_ h0 k0 w_ z_ slots old, kx_0 q_row q_cell len, kx_a q_cell cyI 160 f] U.heap ∧ va_K (dC, dI) vwCl [(cyI, .int)] U)) (vp_Si (fun r : Int32 => True)) 0 0 (fun _ => False) := by
  refine kx_stS (ws := wsX4_longest) (cc := cX4_longest) (maxL := 9) (ret := (some .int)) (by decide) rfl (Nat.le_of_ble_eq_true rfl) ?_
  intro p e s m below meth c ls hx hb hr hlocks hts hown hml hP hK hl
  have hown : s.vm.findClass RX4 = some m.cls := hown
  have hl : lv_has ls 9 [(0, .ref m_), (1, .int p0), (2, .int p1), (3, .int p2), (4, .int p3)] := hl
  have hf_12 := hts (.fieldLink RX4 12 "MajorityIndex" "row" "LMajorityIndex$Row;") (List.mem_of_getElem? (i := 1) rfl)
  have hi_4 : ∀ w ∈ u_ws RX4 TX4 9, w ∈ wsX4_longest := fun w h => List.mem_cons_of_mem _ (List.mem_append_left _ (List.mem_append_right _ h))
  have hf_57 := hts (.fieldLink RX4 57 "MajorityIndex$Row" "length" "I") (List.mem_of_getElem? (i := 2) rfl)
  have hi_0 : ∀ w ∈ u_ws RX0 TX0 2, w ∈ wsX4_longest := fun w h => List.mem_cons_of_mem _ (List.mem_append_right _ h)
  refine lv_iload_n hx hb dX4_longest_0 rfl (lv_at hl 1 rfl) ?_
  have hPc := hP.sub (ws' := []) [] rfl
  have hKc := hK.sub (tys' := []) [] rfl
  refine vp_callSi (W.runS (As := [.int p0]) (rest := []) ⟨hx, hb, hml, hown, hts⟩ (c_X4_isValue l dC dI p0) (va_cwS 1 hts gX4_longest_X4_isValue rfl rfl rfl (by decide +kernel) ⟨Nat.le_of_ble_eq_true rfl, Nat.le_of_ble_eq_true rfl⟩) ⟨fun a U g mk q => by obtain ⟨q0, qP, qK⟩ := q; exact ⟨q0, qP, va_K.moved (u := U) (U := U.calling g mk a) (Vm.Alike.refl U.vm) qK⟩, fun U hU hW => ⟨rfl, by rw [hU]; exact hPc, va_K.moved hW.alike hKc⟩⟩ rfl rfl hl.1 rfl (lv_room (Nat.le_of_ble_eq_true rfl)) dX4_longest_1 ⟨Nat.le_of_ble_eq_true rfl, Nat.le_of_ble_eq_true rfl⟩) (fun r_1 w_1 => ?_)
  rcases w_1 with ⟨rfl, w_1⟩ | ⟨rfl, w_1⟩
  · have w_1 : (-32768 ≤ p0.toInt ∧ p0.toInt ≤ 32767) := w_1
    refine lv_if_eq (tgt := 26) hx hb dX4_longest_4 (by decide) (fun c_2 => ?_) (fun c_2 => ?_)
    · exact absurd c_2 (by decide)
    · refine lv_iload_n hx hb dX4_longest_7 rfl (lv_at hl 2 rfl) ?_
      refine lv_iload_n hx hb dX4_longest_8 rfl (lv_at hl 3 rfl) ?_
      have hPc := hP.sub (ws' := []) [] rfl
      have hKc := hK.sub (tys' := []) [] rfl
      refine vp_callSi (W.runS (As := [.int p1, .int p2]) (rest := []) ⟨hx, hb, hml, hown, hts⟩ (c_X4_isShare l dC dI p1 p2) (va_cwS 2 hts gX4_longest_X4_isShare rfl rfl rfl (by decide +kernel) ⟨Nat.le_of_ble_eq_true rfl, Nat.le_of_ble_eq_true rfl⟩) ⟨fun a U g mk q => by obtain ⟨q0, qP, qK⟩ := q; exact ⟨q0, qP, va_K.moved (u := U) (U := U.calling g mk a) (Vm.Alike.refl U.vm) qK⟩, fun U hU hW => ⟨rfl, by rw [hU]; exact hPc, va_K.moved hW.alike hKc⟩⟩ rfl rfl hl.1 rfl (lv_room (Nat.le_of_ble_eq_true rfl)) dX4_longest_9 ⟨Nat.le_of_ble_eq_true rfl, Nat.le_of_ble_eq_true rfl⟩) (fun r_3 w_3 => ?_)
      rcases w_3 with ⟨rfl, w_3⟩ | ⟨rfl, w_3⟩
      · have w_3 : (1 ≤ p1.toInt ∧ p1.toInt ≤ p2.toInt ∧ p2.toInt ≤ 999) := w_3
        refine lv_if_eq (tgt := 26) hx hb dX4_longest_12 (by decide) (fun c_4 => ?_) (fun c_4 => ?_)
        · exact absurd c_4 (by decide)
        · refine lv_iload hx hb dX4_longest_15 (lv_at hl 4 rfl) ?_
          refine lv_if_lt (tgt := 26) hx hb dX4_longest_17 (by decide) (fun c_5 => ?_) (fun c_5 => ?_)
          · have i_5 : p3.toInt < 0 := kc_lt c_5
            refine lv_iconst (v := (-1)) hx hb dX4_longest_26 (by decide) ?_
            exact W.iret (v := (-1)) hx hb hr (hlocks := hlocks) (fun t ht hW => ⟨(-1), rfl, trivial, ht⟩) (fun q hq => by cases hq) dX4_longest_27
          · have i_5 : 0 ≤ p3.toInt := kc_nlt c_5
            refine lv_iload hx hb dX4_longest_20 (lv_at hl 4 rfl) ?_
            refine lv_iconst (v := 1) hx hb dX4_longest_22 (by decide) ?_
            refine lv_icmp_le (tgt := 28) hx hb dX4_longest_23 (by decide) (fun c_6 => ?_) (fun c_6 => ?_)
            · have i_6 : p3.toInt ≤ 1 := kc_le c_6
              refine lv_iconst (v := (-1)) hx hb dX4_longest_28 (by decide) ?_
              refine lv_istore (lv' := [(5, .int (-1)), (0, .ref m_), (1, .int p0), (2, .int p1), (3, .int p2), (4, .int p3)]) hx hb dX4_longest_29 hl (by decide) rfl (fun ls hl => ?_)
              refine lv_iconst (v := (-1)) hx hb dX4_longest_31 (by decide) ?_
              refine lv_istore (lv' := [(6, .int (-1)), (5, .int (-1)), (0, .ref m_), (1, .int p0), (2, .int p1), (3, .int p2), (4, .int p3)]) hx hb dX4_longest_32 hl (by decide) rfl (fun ls hl => ?_)
              refine lv_iconst (v := 0) hx hb dX4_longest_34 (by decide) ?_
              refine lv_istore (lv' := [(7, .int 0), (6, .int (-1)), (5, .int (-1)), (0, .ref m_), (1, .int p0), (2, .int p1), (3, .int p2), (4, .int p3)]) hx hb dX4_longest_35 hl (by decide) rfl (fun ls hl => ?_)
              have LP1 : ∀ (n : Nat) (i : Int32) (bf : Int32) (bt : Int32), (0 ≤ i.toInt) → (len.toInt - i.toInt).toNat < n → ∀ (ls : Array Slot), lv_has ls 9 [(7, .int i), (6, .int bt), (5, .int bf), (0, .ref m_), (1, .int p0), (2, .int p1), (3, .int p2), (4, .int p3)] → W p l e (headSpec wsX4_longest ({ frames := 2, cells := 0, slots := 0, locals := 90 })).room s m ([.ref m_, .int p0, .int p1, .int p2, .int p3] : List Value).toArray below meth c s.heap [] 0 0 (MQ below (vp_Si (fun r : Int32 => True)) ([.ref m_, .int p0, .int p1, .int p2, .int p3] : List Value).toArray s 0 0 (fun _ => False)) (F0 m 37 ls []) := by
                intro n
                induction n with
                | zero => intro i bf bt LP1_h0 hn; exact absurd hn (Nat.not_lt_zero _)
                | succ n ih1 =>
                  intro i bf bt LP1_h0 hn1 ls hl
                  refine lv_iload hx hb dX4_longest_37 (lv_at hl 0 rfl) ?_
                  refine lv_aload_n hx hb dX4_longest_39 rfl (lv_at hl 3 rfl) ?_
                  refine va_get (D := (dC, dI)) (ci := 4) (v := .ref q_row) (C := RX4) (T := TX4) (N := 9) hx hb hts hi_4 hown hK hP 0 rfl rfl 0 (by decide) hf_12 (fun _ h9 => h9) rfl dX4_longest_40 ?_
                  refine va_get (D := (dC, dI)) (ci := 0) (v := .int len) (C := RX0) (T := TX0) (N := 2) hx hb hts hi_0 hown hK hP 1 rfl rfl 1 (by decide) hf_57 (fun _ h9 => h9) rfl dX4_longest_43 ?_
                  refine lv_icmp_ge (tgt := 93) hx hb dX4_longest_46 (by decide) (fun c_7 => ?_) (fun c_7 => ?_)
                  · have i_7 : len.toInt ≤ i.toInt := kc_le c_7
                    refine lv_iload hx hb dX4_longest_93 (lv_at hl 7 rfl) ?_
                    refine lv_if_ne (tgt := 103) hx hb dX4_longest_95 (by decide) (fun c_8 => ?_) (fun c_8 => ?_)
                    · have i_8 : ¬ p3.toInt = 0 := kc_ne c_8
                      refine lv_iload hx hb dX4_longest_103 (lv_at hl 1 rfl) ?_
                      exact W.iret (v := bt) hx hb hr (hlocks := hlocks) (fun t ht hW => ⟨bt, rfl, trivial, ht⟩) (fun q hq => by cases hq) dX4_longest_105
                    · have i_8 : p3.toInt = 0 := kc_eq c_8
                      refine lv_iload hx hb dX4_longest_98 (lv_at hl 2 rfl) ?_
                      refine lv_goto (tgt := 105) hx hb dX4_longest_100 (by decide) ?_
                      exact W.iret (v := bf) hx hb hr (hlocks := hlocks) (fun t ht hW => ⟨bf, rfl, trivial, ht⟩) (fun q hq => by cases hq) dX4_longest_105
                  · have i_7 : i.toInt < len.toInt := kc_nle c_7
                    refine lv_aload_n hx hb dX4_longest_49 rfl (lv_at hl 3 rfl) ?_
                    refine lv_iload_n hx hb dX4_longest_50 rfl (lv_at hl 4 rfl) ?_
                    refine lv_iload hx hb dX4_longest_51 (lv_at hl 0 rfl) ?_
                    refine lv_iload_n hx hb dX4_longest_53 rfl (lv_at hl 5 rfl) ?_
                    refine lv_iload_n hx hb dX4_longest_54 rfl (lv_at hl 6 rfl) ?_
                    have hPc := hP
                    have hKc := hK
                    refine vp_callSi (W.runV (As := [.int p0, .int i, .int p1, .int p2]) (rest := []) ⟨hx, hb, hml, hown, hts⟩ (c_X4_farthestHeavy l dC dI m_ q_row q_t t_ h0 k0 w_ z_ slots old q_cell cyI len f p0 i p1 p2 a0 a1 LP1_h0) (cwV 4 hts gX4_longest_X4_farthestHeavy rfl rfl rfl (by decide +kernel) ⟨Nat.le_of_ble_eq_true rfl, Nat.le_of_ble_eq_true rfl⟩) ⟨fun a U g mk q => by obtain ⟨q0, qP, qK⟩ := q; exact ⟨q0, qP, va_K.moved (u := U) (U := U.calling g mk a) (Vm.Alike.refl U.vm) qK⟩, kx_rc4 hKc hPc (q0 := 0) rfl, fun U hU hW => ⟨rfl, by rw [hU]; exact hPc, va_K.moved hW.alike hKc⟩⟩ rfl rfl hl.1 rfl (lv_room (Nat.le_of_ble_eq_true rfl)) dX4_longest_55 ⟨Nat.le_of_ble_eq_true rfl, Nat.le_of_ble_eq_true rfl⟩) (fun r_9 w_9 => ?_)
                    refine lv_istore (lv' := [(8, .int r_9), (7, .int i), (6, .int bt), (5, .int bf), (0, .ref m_), (1, .int p0), (2, .int p1), (3, .int p2), (4, .int p3)]) hx hb dX4_longest_58 hl (by decide) rfl (fun ls hl => ?_)
                    refine lv_iload hx hb dX4_longest_60 (lv_at hl 0 rfl) ?_
                    refine lv_iconst (v := (-1)) hx hb dX4_longest_62 (by decide) ?_
                    refine lv_icmp_eq (tgt := 87) hx hb dX4_longest_63 (by decide) (fun c_10 => ?_) (fun c_10 => ?_)
                    · have i_10 : r_9.toInt = (-1) := kc_eq c_10
                      obtain ⟨x_11, ex_11⟩ : ∃ y : Int32, y = i + 1 := ⟨_, rfl⟩
                      have i_11 : x_11.toInt = i.toInt + 1 := ki_add ex_11 rfl rfl (om_13 LP1_h0) (om_3 a1 i_7)
                      refine lv_iinc (v := x_11) (lv' := [(7, .int x_11), (8, .int r_9), (6, .int bt), (5, .int bf), (0, .ref m_), (1, .int p0), (2, .int p1), (3, .int p2), (4, .int p3)]) hx hb dX4_longest_87 hl (k := 1) rfl (by rw [ex_11]; rfl) (by decide) rfl (fun ls hl => ?_)
                      refine lv_goto (tgt := 37) hx hb dX4_longest_90 (by decide) ?_
                      exact ih1 x_11 bf bt (om_34 LP1_h0 i_11) (om_mu hn1 (om_5 i_11) (om_6 i_7)) ls (lv_sub hl [0, 2, 3, 4, 5, 6, 7, 8] rfl)
                    · have i_10 : ¬ r_9.toInt = (-1) := kc_ne c_10
                      refine lv_iload hx hb dX4_longest_66 (lv_at hl 0 rfl) ?_
                      refine lv_iload hx hb dX4_longest_68 (lv_at hl 1 rfl) ?_
                      refine lv_isub hx hb dX4_longest_70 ?_
                      refine lv_topi (fun y_12 ey_12 => ?_)
                      refine lv_iload hx hb dX4_longest_71 (lv_at hl 2 rfl) ?_
                      refine lv_iload hx hb dX4_longest_73 (lv_at hl 3 rfl) ?_
                      refine lv_isub hx hb dX4_longest_75 ?_
                      refine lv_topi (fun y_13 ey_13 => ?_)
                      refine lv_icmp_le (tgt := 87) hx hb dX4_longest_76 (by decide) (fun c_14 => ?_) (fun c_14 => ?_)
                      · have i_14 : y_12.toInt ≤ y_13.toInt := kc_le c_14
                        obtain ⟨x_15, ex_15⟩ : ∃ y : Int32, y = i + 1 := ⟨_, rfl⟩
                        have i_15 : x_15.toInt = i.toInt + 1 := ki_add ex_15 rfl rfl (om_13 LP1_h0) (om_3 a1 i_7)
                        refine lv_iinc (v := x_15) (lv' := [(7, .int x_15), (8, .int r_9), (6, .int bt), (5, .int bf), (0, .ref m_), (1, .int p0), (2, .int p1), (3, .int p2), (4, .int p3)]) hx hb dX4_longest_87 hl (k := 1) rfl (by rw [ex_15]; rfl) (by decide) rfl (fun ls hl => ?_)
                        refine lv_goto (tgt := 37) hx hb dX4_longest_90 (by decide) ?_
                        exact ih1 x_15 bf bt (om_34 LP1_h0 i_15) (om_mu hn1 (om_5 i_15) (om_6 i_7)) ls (lv_sub hl [0, 2, 3, 4, 5, 6, 7, 8] rfl)
                      · have i_14 : y_13.toInt < y_12.toInt := kc_nle c_14
                        refine lv_iload hx hb dX4_longest_79 (lv_at hl 1 rfl) ?_
                        refine lv_istore (lv' := [(5, .int i), (8, .int r_9), (7, .int i), (6, .int bt), (0, .ref m_), (1, .int p0), (2, .int p1), (3, .int p2), (4, .int p3)]) hx hb dX4_longest_81 hl (by decide) rfl (fun ls hl => ?_)
                        refine lv_iload hx hb dX4_longest_83 (lv_at hl 1 rfl) ?_
                        refine lv_istore (lv' := [(6, .int r_9), (5, .int i), (8, .int r_9), (7, .int i), (0, .ref m_), (1, .int p0), (2, .int p1), (3, .int p2), (4, .int p3)]) hx hb dX4_longest_85 hl (by decide) rfl (fun ls hl => ?_)
                        obtain ⟨x_16, ex_16⟩ : ∃ y : Int32, y = i + 1 := ⟨_, rfl⟩
                        have i_16 : x_16.toInt = i.toInt + 1 := ki_add ex_16 rfl rfl (om_13 LP1_h0) (om_3 a1 i_7)
                        refine lv_iinc (v := x_16) (lv' := [(7, .int x_16), (6, .int r_9), (5, .int i), (8, .int r_9), (0, .ref m_), (1, .int p0), (2, .int p1), (3, .int p2), (4, .int p3)]) hx hb dX4_longest_87 hl (k := 3) rfl (by rw [ex_16]; rfl) (by decide) rfl (fun ls hl => ?_)
                        refine lv_goto (tgt := 37) hx hb dX4_longest_90 (by decide) ?_
                        exact ih1 x_16 i r_9 (om_34 LP1_h0 i_16) (om_mu hn1 (om_5 i_16) (om_6 i_7)) ls (lv_sub hl [0, 1, 2, 4, 5, 6, 7, 8] rfl)
              have k_17 : (0 : Int32).toInt = 0 := rfl
              have k_18 : ((-1) : Int32).toInt = -1 := rfl
              have k_19 : ((-1) : Int32).toInt = -1 := rfl
              exact LP1 ((len.toInt - 0 : Int).toNat + 1) 0 (-1) (-1) om_35 (Nat.lt_succ_self _) ls (lv_sub hl [0, 1, 2, 3, 4, 5, 6, 7] rfl)
            · have i_6 : 1 < p3.toInt := kc_nle c_6
              refine lv_iconst (v := (-1)) hx hb dX4_longest_26 (by decide) ?_
              exact W.iret (v := (-1)) hx hb hr (hlocks := hlocks) (fun t ht hW => ⟨(-1), rfl, trivial, ht⟩) (fun q hq => by cases hq) dX4_longest_27
      · have w_3 : (p1.toInt < 1 ∨ p2.toInt < p1.toInt ∨ 999 < p2.toInt) := w_3
        refine lv_if_eq (tgt := 26) hx hb dX4_longest_12 (by decide) (fun c_20 => ?_) (fun c_20 => ?_)
        · refine lv_iconst (v := (-1)) hx hb dX4_longest_26 (by decide) ?_
          exact W.iret (v := (-1)) hx hb hr (hlocks := hlocks) (fun t ht hW => ⟨(-1), rfl, trivial, ht⟩) (fun q hq => by cases hq) dX4_longest_27
        · exact absurd c_20 (by decide)
  · have w_1 : (p0.toInt < -32768 ∨ 32767 < p0.toInt) := w_1
    refine lv_if_eq (tgt := 26) hx hb dX4_longest_4 (by decide) (fun c_21 => ?_) (fun c_21 => ?_)
    · refine lv_iconst (v := (-1)) hx hb dX4_longest_26 (by decide) ?_
      exact W.iret (v := (-1)) hx hb hr (hlocks := hlocks) (fun t ht hW => ⟨(-1), rfl, trivial, ht⟩) (fun q hq => by cases hq) dX4_longest_27
    · exact absurd c_21 (by decide)

set_option maxHeartbeats 4000000 in
set_option maxRecDepth 100000 in
theorem c_X4_cut (l : Launch) (dC : Nat → ClassId) (dI : Nat → Nat → Nat) (m_ : Nat) (q_row : Nat) (q_t : Nat) (t_ : Nat) (h0 : Nat) (k0 : Nat) (w_ : Nat) (z_ : Nat) (slots : Int32) (old : Int32) (q_cell : Nat) (cyI : ClassId) (len : Int32) (f : Nat → Int32) (p0 : Int32) (p1 : Int32) (a0 : 0 ≤ len.toInt) (a1 : len.toInt ≤ 160) : Met l yX4_cut wsX4_cut ({ frames := 2, cells := 0, slots := 0, locals := 90 }) (va_Pc [.ref m_, .int p0, .int p1] (fun U => va_P (dC, dI) vwCl [kx_4 m_ q_row q_t t_ h0 k0 w_ z_ slots old, kx_0 q_row q_cell len, kx_a q_cell cyI 160 f] U.heap ∧ va_K (dC, dI) vwCl [(cyI, .int)] U ∧ va_Nw (.methodLinkNest RX0 28 yX4_isHeavy RX4) U)) (vp_Si (fun r : Int32 => True)) 0 0 (fun _ => False) := by
  refine Met.ofW (cc := cX4_cut) (maxL := 6) (ret := (some .int)) (by decide) rfl ?_
  intro p e s m args below meth c s₁ B hml hv
  obtain ⟨rfl, hP, hK, hN0⟩ := hv
  have hx := B.exec
  have hb := B.bytes
  have hr := B.returns
  have hts := atoms_spec (ws := wsX4_cut) B.pre
  have hown : s.vm.findClass RX4 = some m.cls := findClass_of_methodNamed B.named
  have hlocks := B.notSynchronized
  have hP : va_P (dC, dI) vwCl [kx_4 m_ q_row q_t t_ h0 k0 w_ z_ slots old, kx_0 q_row q_cell len, kx_a q_cell cyI 160 f] s.heap := hP
  have hl := lv_entry ([.ref m_, .int p0, .int p1]) (n := 6) (Nat.le_of_ble_eq_true rfl)
  rw [lg_entry_eq]
  generalize (lg_sl ([.ref m_, .int p0, .int p1]) ++ List.replicate (6 - (lg_sl ([.ref m_, .int p0, .int p1])).length) Slot.unset).toArray = ls at hl ⊢
  have hl : lv_has ls 6 [(0, .ref m_), (1, .int p0), (2, .int p1)] := hl
  have hf_12 := hts (.fieldLink RX4 12 "MajorityIndex" "row" "LMajorityIndex$Row;") (List.mem_of_getElem? (i := 1) rfl)
  have hi_4 : ∀ w ∈ u_ws RX4 TX4 9, w ∈ wsX4_cut := fun w h => List.mem_cons_of_mem _ (List.mem_append_left _ (List.mem_append_right _ h))
  have hk_102 := hts (.constant RX4 102 (-40000)) (List.mem_of_getElem? (i := 2) rfl)
  refine lv_aload_n hx hb dX4_cut_0 rfl (lv_at hl 0 rfl) ?_
  refine va_get (D := (dC, dI)) (ci := 4) (v := .ref q_row) (C := RX4) (T := TX4) (N := 9) hx hb hts hi_4 hown hK hP 0 rfl rfl 0 (by decide) hf_12 (fun _ h9 => h9) rfl dX4_cut_1 ?_
  refine lv_iload_n hx hb dX4_cut_4 rfl (lv_at hl 1 rfl) ?_
  refine lv_iload_n hx hb dX4_cut_5 rfl (lv_at hl 2 rfl) ?_
  have hPc := hP.sub (ws' := [kx_0 q_row q_cell len]) [1] rfl
  have hKc := hK.sub (tys' := []) [] rfl
  refine vp_callSi (W.runV (As := [.int p0, .int p1]) (rest := []) ⟨hx, hb, hml, hown, hts⟩ (c_X0_hasRange l dC dI q_row q_cell len p0 p1) (cwV 2 hts gX4_cut_X0_hasRange rfl rfl rfl (by decide +kernel) ⟨Nat.le_of_ble_eq_true rfl, Nat.le_of_ble_eq_true rfl⟩) ⟨fun a U g mk q => by obtain ⟨q0, qP, qK⟩ := q; exact ⟨q0, qP, va_K.moved (u := U) (U := U.calling g mk a) (Vm.Alike.refl U.vm) qK⟩, kx_rc0 hKc hPc (q0 := 0) rfl, fun U hU hW => ⟨rfl, by rw [hU]; exact hPc, va_K.moved hW.alike hKc⟩⟩ rfl rfl hl.1 rfl (lv_room (Nat.le_of_ble_eq_true rfl)) dX4_cut_6 ⟨Nat.le_of_ble_eq_true rfl, Nat.le_of_ble_eq_true rfl⟩) (fun r_1 w_1 => ?_)
  rcases w_1 with ⟨rfl, w_1⟩ | ⟨rfl, w_1⟩
  · have w_1 : (0 ≤ p0.toInt ∧ p0.toInt < p1.toInt ∧ p1.toInt ≤ len.toInt) := w_1
    refine lv_if_ne (tgt := 14) hx hb dX4_cut_9 (by decide) (fun c_2 => ?_) (fun c_2 => ?_)
    · refine lv_iload_n hx hb dX4_cut_14 rfl (lv_at hl 1 rfl) ?_
      refine lv_iconst (v := 1) hx hb dX4_cut_15 (by decide) ?_
      refine lv_iadd hx hb dX4_cut_16 ?_
      refine lv_topi (fun y_3 ey_3 => ?_)
      have i_3 : y_3.toInt = p0.toInt + 1 := ki_add ey_3 rfl rfl (om_13 w_1.1) (om_170 a1 w_1.2.1 w_1.2.2)
      refine lv_istore_n (lv' := [(3, .int y_3), (0, .ref m_), (1, .int p0), (2, .int p1)]) hx hb dX4_cut_17 rfl hl (by decide) rfl (fun ls hl => ?_)
      have LP1 : ∀ (n : Nat) (i : Int32), (p0.toInt ≤ i.toInt) → (p1.toInt - i.toInt).toNat < n → ∀ (ls : Array Slot), lv_has ls 6 [(3, .int i), (0, .ref m_), (1, .int p0), (2, .int p1)] → W p l e (headSpec wsX4_cut ({ frames := 2, cells := 0, slots := 0, locals := 90 })).room s m ([.ref m_, .int p0, .int p1] : List Value).toArray below meth c s.heap [] 0 0 (MQ below (vp_Si (fun r : Int32 => True)) ([.ref m_, .int p0, .int p1] : List Value).toArray s 0 0 (fun _ => False)) (F0 m 18 ls []) := by
        intro n
        induction n with
        | zero => intro i LP1_h0 hn; exact absurd hn (Nat.not_lt_zero _)
        | succ n ih1 =>
          intro i LP1_h0 hn1 ls hl
          refine lv_iload_n hx hb dX4_cut_18 rfl (lv_at hl 0 rfl) ?_
          refine lv_iload_n hx hb dX4_cut_19 rfl (lv_at hl 3 rfl) ?_
          refine lv_icmp_ge (tgt := 74) hx hb dX4_cut_20 (by decide) (fun c_4 => ?_) (fun c_4 => ?_)
          · have i_4 : p1.toInt ≤ i.toInt := kc_le c_4
            refine lv_iconst (v := (-1)) hx hb dX4_cut_74 (by decide) ?_
            exact W.iret (v := (-1)) hx hb hr (hlocks := hlocks) (fun t ht hW => ⟨(-1), rfl, trivial, ht⟩) (fun q hq => by cases hq) dX4_cut_75
          · have i_4 : i.toInt < p1.toInt := kc_nle c_4
            refine lv_aload_n hx hb dX4_cut_23 rfl (lv_at hl 1 rfl) ?_
            refine va_get (D := (dC, dI)) (ci := 4) (v := .ref q_row) (C := RX4) (T := TX4) (N := 9) hx hb hts hi_4 hown hK hP 0 rfl rfl 0 (by decide) hf_12 (fun _ h9 => h9) rfl dX4_cut_24 ?_
            refine lv_iload_n hx hb dX4_cut_27 rfl (lv_at hl 2 rfl) ?_
            refine lv_iload_n hx hb dX4_cut_28 rfl (lv_at hl 0 rfl) ?_
            have hPc := hP.sub (ws' := [kx_0 q_row q_cell len, kx_a q_cell cyI 160 f]) [1, 2] rfl
            have hKc := hK
            refine vp_callSi (W.runV (As := [.int p0, .int i]) (rest := []) ⟨hx, hb, hml, hown, hts⟩ (c_X0_leader l dC dI q_row q_cell cyI len f p0 i (om_10 w_1.1) (om_171 a1 w_1.2.2 i_4)) (cwV 2 hts gX4_cut_X0_leader rfl rfl rfl (by decide +kernel) ⟨Nat.le_of_ble_eq_true rfl, Nat.le_of_ble_eq_true rfl⟩) ⟨fun a U g mk q => by obtain ⟨q0, qP, qK, qn0⟩ := q; exact ⟨q0, qP, va_K.moved (u := U) (U := U.calling g mk a) (Vm.Alike.refl U.vm) qK, va_Nw.same (u := U) (U := U.calling g mk a) rfl rfl qn0⟩, kx_rc0 hKc hPc (q0 := 0) rfl, fun U hU hW => ⟨rfl, by rw [hU]; exact hPc, va_K.moved hW.alike hKc, va_Nw.warmM hW hN0⟩⟩ rfl rfl hl.1 rfl (lv_room (Nat.le_of_ble_eq_true rfl)) dX4_cut_29 ⟨Nat.le_of_ble_eq_true rfl, Nat.le_of_ble_eq_true rfl⟩) (fun r_5 w_5 => ?_)
            refine lv_istore (lv' := [(4, .int r_5), (3, .int i), (0, .ref m_), (1, .int p0), (2, .int p1)]) hx hb dX4_cut_32 hl (by decide) rfl (fun ls hl => ?_)
            refine lv_aload_n hx hb dX4_cut_34 rfl (lv_at hl 2 rfl) ?_
            refine va_get (D := (dC, dI)) (ci := 4) (v := .ref q_row) (C := RX4) (T := TX4) (N := 9) hx hb hts hi_4 hown hK hP 0 rfl rfl 0 (by decide) hf_12 (fun _ h9 => h9) rfl dX4_cut_35 ?_
            refine lv_iload_n hx hb dX4_cut_38 rfl (lv_at hl 1 rfl) ?_
            refine lv_iload_n hx hb dX4_cut_39 rfl (lv_at hl 4 rfl) ?_
            have hPc := hP.sub (ws' := [kx_0 q_row q_cell len, kx_a q_cell cyI 160 f]) [1, 2] rfl
            have hKc := hK
            refine vp_callSi (W.runV (As := [.int i, .int p1]) (rest := []) ⟨hx, hb, hml, hown, hts⟩ (c_X0_leader l dC dI q_row q_cell cyI len f i p1 (om_0 w_1.1 LP1_h0) (om_167 a1 w_1.2.2)) (cwV 2 hts gX4_cut_X0_leader rfl rfl rfl (by decide +kernel) ⟨Nat.le_of_ble_eq_true rfl, Nat.le_of_ble_eq_true rfl⟩) ⟨fun a U g mk q => by obtain ⟨q0, qP, qK, qn0⟩ := q; exact ⟨q0, qP, va_K.moved (u := U) (U := U.calling g mk a) (Vm.Alike.refl U.vm) qK, va_Nw.same (u := U) (U := U.calling g mk a) rfl rfl qn0⟩, kx_rc0 hKc hPc (q0 := 0) rfl, fun U hU hW => ⟨rfl, by rw [hU]; exact hPc, va_K.moved hW.alike hKc, va_Nw.warmM hW hN0⟩⟩ rfl rfl hl.1 rfl (lv_room (Nat.le_of_ble_eq_true rfl)) dX4_cut_40 ⟨Nat.le_of_ble_eq_true rfl, Nat.le_of_ble_eq_true rfl⟩) (fun r_6 w_6 => ?_)
            refine lv_istore (lv' := [(5, .int r_6), (4, .int r_5), (3, .int i), (0, .ref m_), (1, .int p0), (2, .int p1)]) hx hb dX4_cut_43 hl (by decide) rfl (fun ls hl => ?_)
            refine lv_iload hx hb dX4_cut_45 (lv_at hl 1 rfl) ?_
            refine lv_ldc (v := (-40000)) hx hb hown hk_102 dX4_cut_47 ?_
            refine lv_icmp_eq (tgt := 68) hx hb dX4_cut_49 (by decide) (fun c_7 => ?_) (fun c_7 => ?_)
            · have i_7 : r_5.toInt = (-40000) := kc_eq c_7
              obtain ⟨x_8, ex_8⟩ : ∃ y : Int32, y = i + 1 := ⟨_, rfl⟩
              have i_8 : x_8.toInt = i.toInt + 1 := ki_add ex_8 rfl rfl (om_2 w_1.1 LP1_h0) (om_172 a1 w_1.2.2 i_4)
              refine lv_iinc (v := x_8) (lv' := [(3, .int x_8), (5, .int r_6), (4, .int r_5), (0, .ref m_), (1, .int p0), (2, .int p1)]) hx hb dX4_cut_68 hl (k := 2) rfl (by rw [ex_8]; rfl) (by decide) rfl (fun ls hl => ?_)
              refine lv_goto (tgt := 18) hx hb dX4_cut_71 (by decide) ?_
              exact ih1 x_8 (om_4 LP1_h0 i_8) (om_mu hn1 (om_5 i_8) (om_6 i_4)) ls (lv_sub hl [0, 3, 4, 5] rfl)
            · have i_7 : ¬ r_5.toInt = (-40000) := kc_ne c_7
              refine lv_iload hx hb dX4_cut_52 (lv_at hl 0 rfl) ?_
              refine lv_ldc (v := (-40000)) hx hb hown hk_102 dX4_cut_54 ?_
              refine lv_icmp_eq (tgt := 68) hx hb dX4_cut_56 (by decide) (fun c_9 => ?_) (fun c_9 => ?_)
              · have i_9 : r_6.toInt = (-40000) := kc_eq c_9
                obtain ⟨x_10, ex_10⟩ : ∃ y : Int32, y = i + 1 := ⟨_, rfl⟩
                have i_10 : x_10.toInt = i.toInt + 1 := ki_add ex_10 rfl rfl (om_2 w_1.1 LP1_h0) (om_172 a1 w_1.2.2 i_4)
                refine lv_iinc (v := x_10) (lv' := [(3, .int x_10), (5, .int r_6), (4, .int r_5), (0, .ref m_), (1, .int p0), (2, .int p1)]) hx hb dX4_cut_68 hl (k := 2) rfl (by rw [ex_10]; rfl) (by decide) rfl (fun ls hl => ?_)
                refine lv_goto (tgt := 18) hx hb dX4_cut_71 (by decide) ?_
                exact ih1 x_10 (om_4 LP1_h0 i_10) (om_mu hn1 (om_5 i_10) (om_6 i_4)) ls (lv_sub hl [0, 3, 4, 5] rfl)
              · have i_9 : ¬ r_6.toInt = (-40000) := kc_ne c_9
                refine lv_iload hx hb dX4_cut_59 (lv_at hl 1 rfl) ?_
                refine lv_iload hx hb dX4_cut_61 (lv_at hl 0 rfl) ?_
                refine lv_icmp_eq (tgt := 68) hx hb dX4_cut_63 (by decide) (fun c_11 => ?_) (fun c_11 => ?_)
                · have i_11 : r_5.toInt = r_6.toInt := kc_eq c_11
                  obtain ⟨x_12, ex_12⟩ : ∃ y : Int32, y = i + 1 := ⟨_, rfl⟩
                  have i_12 : x_12.toInt = i.toInt + 1 := ki_add ex_12 rfl rfl (om_2 w_1.1 LP1_h0) (om_172 a1 w_1.2.2 i_4)
                  refine lv_iinc (v := x_12) (lv' := [(3, .int x_12), (5, .int r_6), (4, .int r_5), (0, .ref m_), (1, .int p0), (2, .int p1)]) hx hb dX4_cut_68 hl (k := 2) rfl (by rw [ex_12]; rfl) (by decide) rfl (fun ls hl => ?_)
                  refine lv_goto (tgt := 18) hx hb dX4_cut_71 (by decide) ?_
                  exact ih1 x_12 (om_4 LP1_h0 i_12) (om_mu hn1 (om_5 i_12) (om_6 i_4)) ls (lv_sub hl [0, 3, 4, 5] rfl)
                · have i_11 : ¬ r_5.toInt = r_6.toInt := kc_ne c_11
                  refine lv_iload_n hx hb dX4_cut_66 rfl (lv_at hl 2 rfl) ?_
                  exact W.iret (v := i) hx hb hr (hlocks := hlocks) (fun t ht hW => ⟨i, rfl, trivial, ht⟩) (fun q hq => by cases hq) dX4_cut_67
      exact LP1 ((p1.toInt - y_3.toInt : Int).toNat + 1) y_3 (om_173 i_3) (Nat.lt_succ_self _) ls (lv_sub hl [0, 1, 2, 3] rfl)
    · exact absurd c_2 (by decide)
  · have w_1 : (p0.toInt < 0 ∨ p1.toInt ≤ p0.toInt ∨ len.toInt < p1.toInt) := w_1
    refine lv_if_ne (tgt := 14) hx hb dX4_cut_9 (by decide) (fun c_13 => ?_) (fun c_13 => ?_)
    · exact absurd c_13 (by decide)
    · refine lv_iconst (v := (-1)) hx hb dX4_cut_12 (by decide) ?_
      exact W.iret (v := (-1)) hx hb hr (hlocks := hlocks) (fun t ht hW => ⟨(-1), rfl, trivial, ht⟩) (fun q hq => by cases hq) dX4_cut_13

set_option maxHeartbeats 4000000 in
set_option maxRecDepth 100000 in
theorem c_X4_mostWithoutHeavy (l : Launch) (dC : Nat → ClassId) (dI : Nat → Nat → Nat) (p0 : Int32) (p1 : Int32) (p2 : Int32) : Met l yX4_mostWithoutHeavy wsX4_mostWithoutHeavy ({ frames := 0, cells := 0, slots := 0, locals := 0 }) (va_Pc [.int p0, .int p1, .int p2] (fun U => va_P (dC, dI) vwCl [] U.heap ∧ va_K (dC, dI) vwCl [] U)) (vp_Si (fun r : Int32 => True)) 0 0 (fun _ => False) := by
  refine kx_stS (ws := wsX4_mostWithoutHeavy) (cc := cX4_mostWithoutHeavy) (maxL := 3) (ret := (some .int)) (by decide) rfl (Nat.le_of_ble_eq_true rfl) ?_
  intro p e s m below meth c ls hx hb hr hlocks hts hown hml hP hK hl
  have hown : s.vm.findClass RX4 = some m.cls := hown
  have hl : lv_has ls 3 [(0, .int p0), (1, .int p1), (2, .int p2)] := hl
  refine lv_iload_n hx hb dX4_mostWithoutHeavy_0 rfl (lv_at hl 2 rfl) ?_
  refine lv_if_le (tgt := 12) hx hb dX4_mostWithoutHeavy_1 (by decide) (fun c_1 => ?_) (fun c_1 => ?_)
  · have i_1 : p2.toInt ≤ 0 := kc_le c_1
    refine lv_iconst (v := 0) hx hb dX4_mostWithoutHeavy_12 (by decide) ?_
    exact W.iret (v := 0) hx hb hr (hlocks := hlocks) (fun t ht hW => ⟨0, rfl, trivial, ht⟩) (fun q hq => by cases hq) dX4_mostWithoutHeavy_13
  · have i_1 : 0 < p2.toInt := kc_nle c_1
    refine lv_iload_n hx hb dX4_mostWithoutHeavy_4 rfl (lv_at hl 1 rfl) ?_
    refine lv_iload_n hx hb dX4_mostWithoutHeavy_5 rfl (lv_at hl 0 rfl) ?_
    refine lv_imul hx hb dX4_mostWithoutHeavy_6 ?_
    refine lv_topi (fun y_2 ey_2 => ?_)
    refine lv_iload_n hx hb dX4_mostWithoutHeavy_7 rfl (lv_at hl 2 rfl) ?_
    refine lv_idiv hx hb dX4_mostWithoutHeavy_8 (ki_ne0 (by omega)) ?_
    refine lv_topi (fun y_3 ey_3 => ?_)
    refine lv_goto (tgt := 13) hx hb dX4_mostWithoutHeavy_9 (by decide) ?_
    exact W.iret (v := y_3) hx hb hr (hlocks := hlocks) (fun t ht hW => ⟨y_3, rfl, trivial, ht⟩) (fun q hq => by cases hq) dX4_mostWithoutHeavy_13

set_option maxHeartbeats 4000000 in
set_option maxRecDepth 100000 in
theorem c_X4_needs (l : Launch) (dC : Nat → ClassId) (dI : Nat → Nat → Nat) (m_ : Nat) (q_row : Nat) (q_t : Nat) (t_ : Nat) (h0 : Nat) (k0 : Nat) (w_ : Nat) (z_ : Nat) (slots : Int32) (old : Int32) (q_cell : Nat) (cyI : ClassId) (len : Int32) (f : Nat → Int32) (p0 : Int32) (p1 : Int32) (p2 : Int32) (p3 : Int32) (p4 : Int32) (a0 : 0 ≤ len.toInt) (a1 : len.toInt ≤ 160) : Met l yX4_needs wsX4_needs ({ frames := 1, cells := 0, slots := 0, locals := 45 }) (va_Pc [.ref m_, .int p0, .int p1, .int p2, .int p3, .int p4] (fun U => va_P (dC, dI) vwCl [kx_4 m_ q_row q_t t_ h0 k0 w_ z_ slots old, kx_0 q_row q_cell len, kx_a q_cell cyI 160 f] U.heap ∧ va_K (dC, dI) vwCl [(cyI, .int)] U)) (vp_Si (fun r : Int32 => True)) 0 0 (fun _ => False) := by
  refine kx_stS (ws := wsX4_needs) (cc := cX4_needs) (maxL := 7) (ret := (some .int)) (by decide) rfl (Nat.le_of_ble_eq_true rfl) ?_
  intro p e s m below meth c ls hx hb hr hlocks hts hown hml hP hK hl
  have hown : s.vm.findClass RX4 = some m.cls := hown
  have hl : lv_has ls 7 [(0, .ref m_), (1, .int p0), (2, .int p1), (3, .int p2), (4, .int p3), (5, .int p4)] := hl
  have hf_12 := hts (.fieldLink RX4 12 "MajorityIndex" "row" "LMajorityIndex$Row;") (List.mem_of_getElem? (i := 1) rfl)
  have hi_4 : ∀ w ∈ u_ws RX4 TX4 9, w ∈ wsX4_needs := fun w h => List.mem_cons_of_mem _ (List.mem_append_left _ (List.mem_append_right _ h))
  have hm_96 := hts (.methodLink RX4 96 Lib.Math.max.name) (List.mem_of_getElem? (i := 2) rfl)
  have hms_max := hts (.static Lib.Math.max.name) (List.mem_of_getElem? (i := 3) rfl)
  have hz_math := hts (.initialized "java/lang/Math") (List.mem_of_getElem? (i := 4) rfl)
  have hmc_max := hts (.code Lib.Math.max.name Lib.Math.max.code 2 (some .int)) (List.mem_of_getElem? (i := 5) rfl)
  refine lv_iload_n hx hb dX4_needs_0 rfl (lv_at hl 1 rfl) ?_
  have hPc := hP.sub (ws' := []) [] rfl
  have hKc := hK.sub (tys' := []) [] rfl
  refine vp_callSi (W.runS (As := [.int p0]) (rest := []) ⟨hx, hb, hml, hown, hts⟩ (c_X4_isValue l dC dI p0) (va_cwS 1 hts gX4_needs_X4_isValue rfl rfl rfl (by decide +kernel) ⟨Nat.le_of_ble_eq_true rfl, Nat.le_of_ble_eq_true rfl⟩) ⟨fun a U g mk q => by obtain ⟨q0, qP, qK⟩ := q; exact ⟨q0, qP, va_K.moved (u := U) (U := U.calling g mk a) (Vm.Alike.refl U.vm) qK⟩, fun U hU hW => ⟨rfl, by rw [hU]; exact hPc, va_K.moved hW.alike hKc⟩⟩ rfl rfl hl.1 rfl (lv_room (Nat.le_of_ble_eq_true rfl)) dX4_needs_1 ⟨Nat.le_of_ble_eq_true rfl, Nat.le_of_ble_eq_true rfl⟩) (fun r_1 w_1 => ?_)
  rcases w_1 with ⟨rfl, w_1⟩ | ⟨rfl, w_1⟩
  · have w_1 : (-32768 ≤ p0.toInt ∧ p0.toInt ≤ 32767) := w_1
    refine lv_if_eq (tgt := 29) hx hb dX4_needs_4 (by decide) (fun c_2 => ?_) (fun c_2 => ?_)
    · exact absurd c_2 (by decide)
    · refine lv_aload_n hx hb dX4_needs_7 rfl (lv_at hl 0 rfl) ?_
      refine va_get (D := (dC, dI)) (ci := 4) (v := .ref q_row) (C := RX4) (T := TX4) (N := 9) hx hb hts hi_4 hown hK hP 0 rfl rfl 0 (by decide) hf_12 (fun _ h9 => h9) rfl dX4_needs_8 ?_
      refine lv_iload_n hx hb dX4_needs_11 rfl (lv_at hl 2 rfl) ?_
      refine lv_iload_n hx hb dX4_needs_12 rfl (lv_at hl 3 rfl) ?_
      have hPc := hP.sub (ws' := [kx_0 q_row q_cell len]) [1] rfl
      have hKc := hK.sub (tys' := []) [] rfl
      refine vp_callSi (W.runV (As := [.int p1, .int p2]) (rest := []) ⟨hx, hb, hml, hown, hts⟩ (c_X0_hasRange l dC dI q_row q_cell len p1 p2) (cwV 2 hts gX4_needs_X0_hasRange rfl rfl rfl (by decide +kernel) ⟨Nat.le_of_ble_eq_true rfl, Nat.le_of_ble_eq_true rfl⟩) ⟨fun a U g mk q => by obtain ⟨q0, qP, qK⟩ := q; exact ⟨q0, qP, va_K.moved (u := U) (U := U.calling g mk a) (Vm.Alike.refl U.vm) qK⟩, kx_rc0 hKc hPc (q0 := 0) rfl, fun U hU hW => ⟨rfl, by rw [hU]; exact hPc, va_K.moved hW.alike hKc⟩⟩ rfl rfl hl.1 rfl (lv_room (Nat.le_of_ble_eq_true rfl)) dX4_needs_13 ⟨Nat.le_of_ble_eq_true rfl, Nat.le_of_ble_eq_true rfl⟩) (fun r_3 w_3 => ?_)
      rcases w_3 with ⟨rfl, w_3⟩ | ⟨rfl, w_3⟩
      · have w_3 : (0 ≤ p1.toInt ∧ p1.toInt < p2.toInt ∧ p2.toInt ≤ len.toInt) := w_3
        refine lv_if_eq (tgt := 29) hx hb dX4_needs_16 (by decide) (fun c_4 => ?_) (fun c_4 => ?_)
        · exact absurd c_4 (by decide)
        · refine lv_iload hx hb dX4_needs_19 (lv_at hl 4 rfl) ?_
          refine lv_iload hx hb dX4_needs_21 (lv_at hl 5 rfl) ?_
          have hPc := hP.sub (ws' := []) [] rfl
          have hKc := hK.sub (tys' := []) [] rfl
          refine vp_callSi (W.runS (As := [.int p3, .int p4]) (rest := []) ⟨hx, hb, hml, hown, hts⟩ (c_X4_isShare l dC dI p3 p4) (va_cwS 2 hts gX4_needs_X4_isShare rfl rfl rfl (by decide +kernel) ⟨Nat.le_of_ble_eq_true rfl, Nat.le_of_ble_eq_true rfl⟩) ⟨fun a U g mk q => by obtain ⟨q0, qP, qK⟩ := q; exact ⟨q0, qP, va_K.moved (u := U) (U := U.calling g mk a) (Vm.Alike.refl U.vm) qK⟩, fun U hU hW => ⟨rfl, by rw [hU]; exact hPc, va_K.moved hW.alike hKc⟩⟩ rfl rfl hl.1 rfl (lv_room (Nat.le_of_ble_eq_true rfl)) dX4_needs_23 ⟨Nat.le_of_ble_eq_true rfl, Nat.le_of_ble_eq_true rfl⟩) (fun r_5 w_5 => ?_)
          rcases w_5 with ⟨rfl, w_5⟩ | ⟨rfl, w_5⟩
          · have w_5 : (1 ≤ p3.toInt ∧ p3.toInt ≤ p4.toInt ∧ p4.toInt ≤ 999) := w_5
            refine lv_if_ne (tgt := 31) hx hb dX4_needs_26 (by decide) (fun c_6 => ?_) (fun c_6 => ?_)
            · refine lv_iload_n hx hb dX4_needs_31 rfl (lv_at hl 3 rfl) ?_
              refine lv_iload_n hx hb dX4_needs_32 rfl (lv_at hl 2 rfl) ?_
              refine lv_isub hx hb dX4_needs_33 ?_
              refine lv_topi (fun y_7 ey_7 => ?_)
              have i_7 : y_7.toInt = p2.toInt - p1.toInt := ki_sub ey_7 rfl rfl (om_168 w_3.2.1) (om_169 a1 w_3.1 w_3.2.2)
              refine lv_iload hx hb dX4_needs_34 (lv_at hl 4 rfl) ?_
              refine lv_iload hx hb dX4_needs_36 (lv_at hl 5 rfl) ?_
              have hPc := hP.sub (ws' := []) [] rfl
              have hKc := hK.sub (tys' := []) [] rfl
              refine vp_callSi (W.runS (As := [.int y_7, .int p3, .int p4]) (rest := []) ⟨hx, hb, hml, hown, hts⟩ (c_X4_mostWithoutHeavy l dC dI y_7 p3 p4) (va_cwS 3 hts gX4_needs_X4_mostWithoutHeavy rfl rfl rfl (by decide +kernel) ⟨Nat.le_of_ble_eq_true rfl, Nat.le_of_ble_eq_true rfl⟩) ⟨fun a U g mk q => by obtain ⟨q0, qP, qK⟩ := q; exact ⟨q0, qP, va_K.moved (u := U) (U := U.calling g mk a) (Vm.Alike.refl U.vm) qK⟩, fun U hU hW => ⟨rfl, by rw [hU]; exact hPc, va_K.moved hW.alike hKc⟩⟩ rfl rfl hl.1 rfl (lv_room (Nat.le_of_ble_eq_true rfl)) dX4_needs_38 ⟨Nat.le_of_ble_eq_true rfl, Nat.le_of_ble_eq_true rfl⟩) (fun r_8 w_8 => ?_)
              refine lv_iconst (v := 1) hx hb dX4_needs_41 (by decide) ?_
              refine lv_iadd hx hb dX4_needs_42 ?_
              refine lv_topi (fun y_9 ey_9 => ?_)
              refine lv_istore (lv' := [(6, .int y_9), (0, .ref m_), (1, .int p0), (2, .int p1), (3, .int p2), (4, .int p3), (5, .int p4)]) hx hb dX4_needs_43 hl (by decide) rfl (fun ls hl => ?_)
              refine lv_iload hx hb dX4_needs_45 (lv_at hl 0 rfl) ?_
              refine lv_iload_n hx hb dX4_needs_47 rfl (lv_at hl 4 rfl) ?_
              refine lv_iload_n hx hb dX4_needs_48 rfl (lv_at hl 3 rfl) ?_
              refine lv_isub hx hb dX4_needs_49 ?_
              refine lv_topi (fun y_10 ey_10 => ?_)
              have i_10 : y_10.toInt = p2.toInt - p1.toInt := ki_sub ey_10 rfl rfl (om_168 w_3.2.1) (om_169 a1 w_3.1 w_3.2.2)
              refine lv_icmp_le (tgt := 56) hx hb dX4_needs_50 (by decide) (fun c_11 => ?_) (fun c_11 => ?_)
              · have i_11 : y_9.toInt ≤ y_10.toInt := kc_le c_11
                refine lv_iconst (v := 0) hx hb dX4_needs_56 (by decide) ?_
                refine lv_iload hx hb dX4_needs_57 (lv_at hl 0 rfl) ?_
                refine lv_aload_n hx hb dX4_needs_59 rfl (lv_at hl 1 rfl) ?_
                refine va_get (D := (dC, dI)) (ci := 4) (v := .ref q_row) (C := RX4) (T := TX4) (N := 9) hx hb hts hi_4 hown hK hP 0 rfl rfl 0 (by decide) hf_12 (fun _ h9 => h9) rfl dX4_needs_60 ?_
                refine lv_iload_n hx hb dX4_needs_63 rfl (lv_at hl 2 rfl) ?_
                refine lv_iload_n hx hb dX4_needs_64 rfl (lv_at hl 3 rfl) ?_
                refine lv_iload_n hx hb dX4_needs_65 rfl (lv_at hl 4 rfl) ?_
                have hPc := hP.sub (ws' := [kx_0 q_row q_cell len, kx_a q_cell cyI 160 f]) [1, 2] rfl
                have hKc := hK
                refine vp_callSi (W.runV (As := [.int p0, .int p1, .int p2]) (rest := [.int y_9, .int 0]) ⟨hx, hb, hml, hown, hts⟩ (c_X0_oftenIn l dC dI q_row q_cell cyI len f p0 p1 p2 (om_10 w_3.1) (om_167 a1 w_3.2.2)) (cwV 3 hts gX4_needs_X0_oftenIn rfl rfl rfl (by decide +kernel) ⟨Nat.le_of_ble_eq_true rfl, Nat.le_of_ble_eq_true rfl⟩) ⟨fun a U g mk q => by obtain ⟨q0, qP, qK⟩ := q; exact ⟨q0, qP, va_K.moved (u := U) (U := U.calling g mk a) (Vm.Alike.refl U.vm) qK⟩, kx_rc0 hKc hPc (q0 := 0) rfl, fun U hU hW => ⟨rfl, by rw [hU]; exact hPc, va_K.moved hW.alike hKc⟩⟩ rfl rfl hl.1 rfl (lv_room (Nat.le_of_ble_eq_true rfl)) dX4_needs_66 ⟨Nat.le_of_ble_eq_true rfl, Nat.le_of_ble_eq_true rfl⟩) (fun r_12 w_12 => ?_)
                have w_12 : r_12.toInt = (cnt f p0 p1.toNatClampNeg (p2.toInt - p1.toInt).toNat : Int) := w_12
                refine lv_isub hx hb dX4_needs_69 ?_
                refine lv_topi (fun y_13 ey_13 => ?_)
                refine va_mmax hx hb (hml.trans hl.1.symm) hown hm_96 hms_max hz_math hmc_max (Nat.le_of_ble_eq_true rfl) (Nat.le_of_ble_eq_true rfl) (Nat.le_of_ble_eq_true rfl) (Nat.le_of_ble_eq_true rfl) dX4_needs_70 ?_
                refine lv_topi (fun y_14 ey_14 => ?_)
                have i_15 : (0 ≤ y_13.toInt ∧ y_14.toInt = y_13.toInt) ∨ (y_13.toInt < 0 ∧ y_14.toInt = 0) := ki_max ey_14 rfl rfl
                exact W.iret (v := y_14) hx hb hr (hlocks := hlocks) (fun t ht hW => ⟨y_14, rfl, trivial, ht⟩) (fun q hq => by cases hq) dX4_needs_73
              · have i_11 : y_10.toInt < y_9.toInt := kc_nle c_11
                refine lv_bipush (v := (-2)) hx hb dX4_needs_53 (by decide) ?_
                exact W.iret (v := (-2)) hx hb hr (hlocks := hlocks) (fun t ht hW => ⟨(-2), rfl, trivial, ht⟩) (fun q hq => by cases hq) dX4_needs_55
            · exact absurd c_6 (by decide)
          · have w_5 : (p3.toInt < 1 ∨ p4.toInt < p3.toInt ∨ 999 < p4.toInt) := w_5
            refine lv_if_ne (tgt := 31) hx hb dX4_needs_26 (by decide) (fun c_16 => ?_) (fun c_16 => ?_)
            · exact absurd c_16 (by decide)
            · refine lv_iconst (v := (-1)) hx hb dX4_needs_29 (by decide) ?_
              exact W.iret (v := (-1)) hx hb hr (hlocks := hlocks) (fun t ht hW => ⟨(-1), rfl, trivial, ht⟩) (fun q hq => by cases hq) dX4_needs_30
      · have w_3 : (p1.toInt < 0 ∨ p2.toInt ≤ p1.toInt ∨ len.toInt < p2.toInt) := w_3
        refine lv_if_eq (tgt := 29) hx hb dX4_needs_16 (by decide) (fun c_17 => ?_) (fun c_17 => ?_)
        · refine lv_iconst (v := (-1)) hx hb dX4_needs_29 (by decide) ?_
          exact W.iret (v := (-1)) hx hb hr (hlocks := hlocks) (fun t ht hW => ⟨(-1), rfl, trivial, ht⟩) (fun q hq => by cases hq) dX4_needs_30
        · exact absurd c_17 (by decide)
  · have w_1 : (p0.toInt < -32768 ∨ 32767 < p0.toInt) := w_1
    refine lv_if_eq (tgt := 29) hx hb dX4_needs_4 (by decide) (fun c_18 => ?_) (fun c_18 => ?_)
    · refine lv_iconst (v := (-1)) hx hb dX4_needs_29 (by decide) ?_
      exact W.iret (v := (-1)) hx hb hr (hlocks := hlocks) (fun t ht hW => ⟨(-1), rfl, trivial, ht⟩) (fun q hq => by cases hq) dX4_needs_30
    · exact absurd c_18 (by decide)

set_option maxHeartbeats 4000000 in
set_option maxRecDepth 100000 in
theorem c_X4_spares (l : Launch) (dC : Nat → ClassId) (dI : Nat → Nat → Nat) (m_ : Nat) (q_row : Nat) (q_t : Nat) (t_ : Nat) (h0 : Nat) (k0 : Nat) (w_ : Nat) (z_ : Nat) (slots : Int32) (old : Int32) (q_cell : Nat) (cyI : ClassId) (len : Int32) (f : Nat → Int32) (p0 : Int32) (p1 : Int32) (p2 : Int32) (p3 : Int32) (p4 : Int32) (a0 : 0 ≤ len.toInt) (a1 : len.toInt ≤ 160) : Met l yX4_spares wsX4_spares ({ frames := 1, cells := 0, slots := 0, locals := 45 }) (va_Pc [.ref m_, .int p0, .int p1, .int p2, .int p3, .int p4] (fun U => va_P (dC, dI) vwCl [kx_4 m_ q_row q_t t_ h0 k0 w_ z_ slots old, kx_0 q_row q_cell len, kx_a q_cell cyI 160 f] U.heap ∧ va_K (dC, dI) vwCl [(cyI, .int)] U)) (vp_Si (fun r : Int32 => True)) 0 0 (fun _ => False) := by
  refine kx_stS (ws := wsX4_spares) (cc := cX4_spares) (maxL := 6) (ret := (some .int)) (by decide) rfl (Nat.le_of_ble_eq_true rfl) ?_
  intro p e s m below meth c ls hx hb hr hlocks hts hown hml hP hK hl
  have hown : s.vm.findClass RX4 = some m.cls := hown
  have hl : lv_has ls 6 [(0, .ref m_), (1, .int p0), (2, .int p1), (3, .int p2), (4, .int p3), (5, .int p4)] := hl
  have hf_12 := hts (.fieldLink RX4 12 "MajorityIndex" "row" "LMajorityIndex$Row;") (List.mem_of_getElem? (i := 1) rfl)
  have hi_4 : ∀ w ∈ u_ws RX4 TX4 9, w ∈ wsX4_spares := fun w h => List.mem_cons_of_mem _ (List.mem_append_left _ (List.mem_append_right _ h))
  have hm_96 := hts (.methodLink RX4 96 Lib.Math.max.name) (List.mem_of_getElem? (i := 2) rfl)
  have hms_max := hts (.static Lib.Math.max.name) (List.mem_of_getElem? (i := 3) rfl)
  have hz_math := hts (.initialized "java/lang/Math") (List.mem_of_getElem? (i := 4) rfl)
  have hmc_max := hts (.code Lib.Math.max.name Lib.Math.max.code 2 (some .int)) (List.mem_of_getElem? (i := 5) rfl)
  refine lv_iload_n hx hb dX4_spares_0 rfl (lv_at hl 1 rfl) ?_
  have hPc := hP.sub (ws' := []) [] rfl
  have hKc := hK.sub (tys' := []) [] rfl
  refine vp_callSi (W.runS (As := [.int p0]) (rest := []) ⟨hx, hb, hml, hown, hts⟩ (c_X4_isValue l dC dI p0) (va_cwS 1 hts gX4_spares_X4_isValue rfl rfl rfl (by decide +kernel) ⟨Nat.le_of_ble_eq_true rfl, Nat.le_of_ble_eq_true rfl⟩) ⟨fun a U g mk q => by obtain ⟨q0, qP, qK⟩ := q; exact ⟨q0, qP, va_K.moved (u := U) (U := U.calling g mk a) (Vm.Alike.refl U.vm) qK⟩, fun U hU hW => ⟨rfl, by rw [hU]; exact hPc, va_K.moved hW.alike hKc⟩⟩ rfl rfl hl.1 rfl (lv_room (Nat.le_of_ble_eq_true rfl)) dX4_spares_1 ⟨Nat.le_of_ble_eq_true rfl, Nat.le_of_ble_eq_true rfl⟩) (fun r_1 w_1 => ?_)
  rcases w_1 with ⟨rfl, w_1⟩ | ⟨rfl, w_1⟩
  · have w_1 : (-32768 ≤ p0.toInt ∧ p0.toInt ≤ 32767) := w_1
    refine lv_if_eq (tgt := 29) hx hb dX4_spares_4 (by decide) (fun c_2 => ?_) (fun c_2 => ?_)
    · exact absurd c_2 (by decide)
    · refine lv_aload_n hx hb dX4_spares_7 rfl (lv_at hl 0 rfl) ?_
      refine va_get (D := (dC, dI)) (ci := 4) (v := .ref q_row) (C := RX4) (T := TX4) (N := 9) hx hb hts hi_4 hown hK hP 0 rfl rfl 0 (by decide) hf_12 (fun _ h9 => h9) rfl dX4_spares_8 ?_
      refine lv_iload_n hx hb dX4_spares_11 rfl (lv_at hl 2 rfl) ?_
      refine lv_iload_n hx hb dX4_spares_12 rfl (lv_at hl 3 rfl) ?_
      have hPc := hP.sub (ws' := [kx_0 q_row q_cell len]) [1] rfl
      have hKc := hK.sub (tys' := []) [] rfl
      refine vp_callSi (W.runV (As := [.int p1, .int p2]) (rest := []) ⟨hx, hb, hml, hown, hts⟩ (c_X0_hasRange l dC dI q_row q_cell len p1 p2) (cwV 2 hts gX4_spares_X0_hasRange rfl rfl rfl (by decide +kernel) ⟨Nat.le_of_ble_eq_true rfl, Nat.le_of_ble_eq_true rfl⟩) ⟨fun a U g mk q => by obtain ⟨q0, qP, qK⟩ := q; exact ⟨q0, qP, va_K.moved (u := U) (U := U.calling g mk a) (Vm.Alike.refl U.vm) qK⟩, kx_rc0 hKc hPc (q0 := 0) rfl, fun U hU hW => ⟨rfl, by rw [hU]; exact hPc, va_K.moved hW.alike hKc⟩⟩ rfl rfl hl.1 rfl (lv_room (Nat.le_of_ble_eq_true rfl)) dX4_spares_13 ⟨Nat.le_of_ble_eq_true rfl, Nat.le_of_ble_eq_true rfl⟩) (fun r_3 w_3 => ?_)
      rcases w_3 with ⟨rfl, w_3⟩ | ⟨rfl, w_3⟩
      · have w_3 : (0 ≤ p1.toInt ∧ p1.toInt < p2.toInt ∧ p2.toInt ≤ len.toInt) := w_3
        refine lv_if_eq (tgt := 29) hx hb dX4_spares_16 (by decide) (fun c_4 => ?_) (fun c_4 => ?_)
        · exact absurd c_4 (by decide)
        · refine lv_iload hx hb dX4_spares_19 (lv_at hl 4 rfl) ?_
          refine lv_iload hx hb dX4_spares_21 (lv_at hl 5 rfl) ?_
          have hPc := hP.sub (ws' := []) [] rfl
          have hKc := hK.sub (tys' := []) [] rfl
          refine vp_callSi (W.runS (As := [.int p3, .int p4]) (rest := []) ⟨hx, hb, hml, hown, hts⟩ (c_X4_isShare l dC dI p3 p4) (va_cwS 2 hts gX4_spares_X4_isShare rfl rfl rfl (by decide +kernel) ⟨Nat.le_of_ble_eq_true rfl, Nat.le_of_ble_eq_true rfl⟩) ⟨fun a U g mk q => by obtain ⟨q0, qP, qK⟩ := q; exact ⟨q0, qP, va_K.moved (u := U) (U := U.calling g mk a) (Vm.Alike.refl U.vm) qK⟩, fun U hU hW => ⟨rfl, by rw [hU]; exact hPc, va_K.moved hW.alike hKc⟩⟩ rfl rfl hl.1 rfl (lv_room (Nat.le_of_ble_eq_true rfl)) dX4_spares_23 ⟨Nat.le_of_ble_eq_true rfl, Nat.le_of_ble_eq_true rfl⟩) (fun r_5 w_5 => ?_)
          rcases w_5 with ⟨rfl, w_5⟩ | ⟨rfl, w_5⟩
          · have w_5 : (1 ≤ p3.toInt ∧ p3.toInt ≤ p4.toInt ∧ p4.toInt ≤ 999) := w_5
            refine lv_if_ne (tgt := 31) hx hb dX4_spares_26 (by decide) (fun c_6 => ?_) (fun c_6 => ?_)
            · refine lv_iconst (v := 0) hx hb dX4_spares_31 (by decide) ?_
              refine lv_aload_n hx hb dX4_spares_32 rfl (lv_at hl 0 rfl) ?_
              refine va_get (D := (dC, dI)) (ci := 4) (v := .ref q_row) (C := RX4) (T := TX4) (N := 9) hx hb hts hi_4 hown hK hP 0 rfl rfl 0 (by decide) hf_12 (fun _ h9 => h9) rfl dX4_spares_33 ?_
              refine lv_iload_n hx hb dX4_spares_36 rfl (lv_at hl 1 rfl) ?_
              refine lv_iload_n hx hb dX4_spares_37 rfl (lv_at hl 2 rfl) ?_
              refine lv_iload_n hx hb dX4_spares_38 rfl (lv_at hl 3 rfl) ?_
              have hPc := hP.sub (ws' := [kx_0 q_row q_cell len, kx_a q_cell cyI 160 f]) [1, 2] rfl
              have hKc := hK
              refine vp_callSi (W.runV (As := [.int p0, .int p1, .int p2]) (rest := [.int 0]) ⟨hx, hb, hml, hown, hts⟩ (c_X0_oftenIn l dC dI q_row q_cell cyI len f p0 p1 p2 (om_10 w_3.1) (om_167 a1 w_3.2.2)) (cwV 3 hts gX4_spares_X0_oftenIn rfl rfl rfl (by decide +kernel) ⟨Nat.le_of_ble_eq_true rfl, Nat.le_of_ble_eq_true rfl⟩) ⟨fun a U g mk q => by obtain ⟨q0, qP, qK⟩ := q; exact ⟨q0, qP, va_K.moved (u := U) (U := U.calling g mk a) (Vm.Alike.refl U.vm) qK⟩, kx_rc0 hKc hPc (q0 := 0) rfl, fun U hU hW => ⟨rfl, by rw [hU]; exact hPc, va_K.moved hW.alike hKc⟩⟩ rfl rfl hl.1 rfl (lv_room (Nat.le_of_ble_eq_true rfl)) dX4_spares_39 ⟨Nat.le_of_ble_eq_true rfl, Nat.le_of_ble_eq_true rfl⟩) (fun r_7 w_7 => ?_)
              have w_7 : r_7.toInt = (cnt f p0 p1.toNatClampNeg (p2.toInt - p1.toInt).toNat : Int) := w_7
              refine lv_iload_n hx hb dX4_spares_42 rfl (lv_at hl 3 rfl) ?_
              refine lv_iload_n hx hb dX4_spares_43 rfl (lv_at hl 2 rfl) ?_
              refine lv_isub hx hb dX4_spares_44 ?_
              refine lv_topi (fun y_8 ey_8 => ?_)
              have i_8 : y_8.toInt = p2.toInt - p1.toInt := ki_sub ey_8 rfl rfl (om_168 w_3.2.1) (om_169 a1 w_3.1 w_3.2.2)
              refine lv_iload hx hb dX4_spares_45 (lv_at hl 4 rfl) ?_
              refine lv_iload hx hb dX4_spares_47 (lv_at hl 5 rfl) ?_
              have hPc := hP.sub (ws' := []) [] rfl
              have hKc := hK.sub (tys' := []) [] rfl
              refine vp_callSi (W.runS (As := [.int y_8, .int p3, .int p4]) (rest := [.int r_7, .int 0]) ⟨hx, hb, hml, hown, hts⟩ (c_X4_mostWithoutHeavy l dC dI y_8 p3 p4) (va_cwS 3 hts gX4_spares_X4_mostWithoutHeavy rfl rfl rfl (by decide +kernel) ⟨Nat.le_of_ble_eq_true rfl, Nat.le_of_ble_eq_true rfl⟩) ⟨fun a U g mk q => by obtain ⟨q0, qP, qK⟩ := q; exact ⟨q0, qP, va_K.moved (u := U) (U := U.calling g mk a) (Vm.Alike.refl U.vm) qK⟩, fun U hU hW => ⟨rfl, by rw [hU]; exact hPc, va_K.moved hW.alike hKc⟩⟩ rfl rfl hl.1 rfl (lv_room (Nat.le_of_ble_eq_true rfl)) dX4_spares_49 ⟨Nat.le_of_ble_eq_true rfl, Nat.le_of_ble_eq_true rfl⟩) (fun r_9 w_9 => ?_)
              refine lv_isub hx hb dX4_spares_52 ?_
              refine lv_topi (fun y_10 ey_10 => ?_)
              refine va_mmax hx hb (hml.trans hl.1.symm) hown hm_96 hms_max hz_math hmc_max (Nat.le_of_ble_eq_true rfl) (Nat.le_of_ble_eq_true rfl) (Nat.le_of_ble_eq_true rfl) (Nat.le_of_ble_eq_true rfl) dX4_spares_53 ?_
              refine lv_topi (fun y_11 ey_11 => ?_)
              have i_12 : (0 ≤ y_10.toInt ∧ y_11.toInt = y_10.toInt) ∨ (y_10.toInt < 0 ∧ y_11.toInt = 0) := ki_max ey_11 rfl rfl
              exact W.iret (v := y_11) hx hb hr (hlocks := hlocks) (fun t ht hW => ⟨y_11, rfl, trivial, ht⟩) (fun q hq => by cases hq) dX4_spares_56
            · exact absurd c_6 (by decide)
          · have w_5 : (p3.toInt < 1 ∨ p4.toInt < p3.toInt ∨ 999 < p4.toInt) := w_5
            refine lv_if_ne (tgt := 31) hx hb dX4_spares_26 (by decide) (fun c_13 => ?_) (fun c_13 => ?_)
            · exact absurd c_13 (by decide)
            · refine lv_iconst (v := (-1)) hx hb dX4_spares_29 (by decide) ?_
              exact W.iret (v := (-1)) hx hb hr (hlocks := hlocks) (fun t ht hW => ⟨(-1), rfl, trivial, ht⟩) (fun q hq => by cases hq) dX4_spares_30
      · have w_3 : (p1.toInt < 0 ∨ p2.toInt ≤ p1.toInt ∨ len.toInt < p2.toInt) := w_3
        refine lv_if_eq (tgt := 29) hx hb dX4_spares_16 (by decide) (fun c_14 => ?_) (fun c_14 => ?_)
        · refine lv_iconst (v := (-1)) hx hb dX4_spares_29 (by decide) ?_
          exact W.iret (v := (-1)) hx hb hr (hlocks := hlocks) (fun t ht hW => ⟨(-1), rfl, trivial, ht⟩) (fun q hq => by cases hq) dX4_spares_30
        · exact absurd c_14 (by decide)
  · have w_1 : (p0.toInt < -32768 ∨ 32767 < p0.toInt) := w_1
    refine lv_if_eq (tgt := 29) hx hb dX4_spares_4 (by decide) (fun c_15 => ?_) (fun c_15 => ?_)
    · refine lv_iconst (v := (-1)) hx hb dX4_spares_29 (by decide) ?_
      exact W.iret (v := (-1)) hx hb hr (hlocks := hlocks) (fun t ht hW => ⟨(-1), rfl, trivial, ht⟩) (fun q hq => by cases hq) dX4_spares_30
    · exact absurd c_15 (by decide)

set_option maxHeartbeats 4000000 in
set_option maxRecDepth 100000 in
theorem c_X4_would (l : Launch) (dC : Nat → ClassId) (dI : Nat → Nat → Nat) (m_ : Nat) (q_row : Nat) (q_t : Nat) (t_ : Nat) (h0 : Nat) (k0 : Nat) (w_ : Nat) (z_ : Nat) (slots : Int32) (old : Int32) (q_cell : Nat) (cyI : ClassId) (len : Int32) (f : Nat → Int32) (p0 : Int32) (p1 : Int32) (p2 : Int32) (p3 : Int32) (sz : Nat) (a0 : 0 ≤ len.toInt) (a1 : len.toInt ≤ 160) : Met l yX4_would wsX4_would ({ frames := 2, cells := 0, slots := 0, locals := 90 }) (va_Pc [.ref m_, .int p0, .int p1, .int p2, .int p3] (fun U => U.heap.size = sz ∧ va_P (dC, dI) vwCl [kx_4 m_ q_row q_t t_ h0 k0 w_ z_ slots old, kx_0 q_row q_cell len, kx_a q_cell cyI 160 f] U.heap ∧ va_K (dC, dI) vwCl [(cyI, .int)] U ∧ va_D (fun _ => True) [kx_4 m_ q_row q_t t_ h0 k0 w_ z_ slots old, kx_0 q_row q_cell len, kx_a q_cell cyI 160 f] ∧ va_Nw (.methodLinkNest RX0 28 yX4_isHeavy RX4) U)) (va_Qi (fun (r : Int32) (u : (Nat → Int32)) => u = f) (fun (u : (Nat → Int32)) (t : State) => va_P (dC, dI) vwCl [kx_4 m_ q_row q_t t_ h0 k0 w_ z_ slots old, kx_0 q_row q_cell len, kx_a q_cell cyI 160 u] t.heap ∧ va_K (dC, dI) vwCl [(cyI, .int)] t ∧ va_D (va_A [kx_4 m_ q_row q_t t_ h0 k0 w_ z_ slots old, kx_0 q_row q_cell len, kx_a q_cell cyI 160 f] sz) [kx_4 m_ q_row q_t t_ h0 k0 w_ z_ slots old, kx_0 q_row q_cell len, kx_a q_cell cyI 160 u]) (va_A [kx_4 m_ q_row q_t t_ h0 k0 w_ z_ slots old, kx_0 q_row q_cell len, kx_a q_cell cyI 160 f] sz)) 0 0 (va_A [kx_4 m_ q_row q_t t_ h0 k0 w_ z_ slots old, kx_0 q_row q_cell len, kx_a q_cell cyI 160 f] sz) := by
  refine Met.ofW (cc := cX4_would) (maxL := 7) (ret := (some .int)) (by decide) rfl ?_
  intro p e s m args below meth c s₁ B hml hv
  obtain ⟨rfl, hsz, hP, hK, hD0, hN0⟩ := hv
  have hx := B.exec
  have hb := B.bytes
  have hr := B.returns
  have hts := atoms_spec (ws := wsX4_would) B.pre
  have hown : s.vm.findClass RX4 = some m.cls := findClass_of_methodNamed B.named
  have hlocks := B.notSynchronized
  subst hsz
  have hD := hD0.self (sz := s.heap.size)
  generalize hAe : va_A [kx_4 m_ q_row q_t t_ h0 k0 w_ z_ slots old, kx_0 q_row q_cell len, kx_a q_cell cyI 160 f] s.heap.size = A at hD ⊢
  have hA : ∀ q : Nat, s.heap.size ≤ q → A q := fun q h => by rw [← hAe]; exact Or.inr h
  have hS : va_S A s.heap s.heap [] := va_S.rf
  have hP : va_P (dC, dI) vwCl [kx_4 m_ q_row q_t t_ h0 k0 w_ z_ slots old, kx_0 q_row q_cell len, kx_a q_cell cyI 160 f] s.heap := hP
  have hl := lv_entry ([.ref m_, .int p0, .int p1, .int p2, .int p3]) (n := 7) (Nat.le_of_ble_eq_true rfl)
  rw [lg_entry_eq]
  generalize (lg_sl ([.ref m_, .int p0, .int p1, .int p2, .int p3]) ++ List.replicate (7 - (lg_sl ([.ref m_, .int p0, .int p1, .int p2, .int p3])).length) Slot.unset).toArray = ls at hl ⊢
  have hl : lv_has ls 7 [(0, .ref m_), (1, .int p0), (2, .int p1), (3, .int p2), (4, .int p3)] := hl
  have hf_12 := hts (.fieldLink RX4 12 "MajorityIndex" "row" "LMajorityIndex$Row;") (List.mem_of_getElem? (i := 1) rfl)
  have hi_4 : ∀ w ∈ u_ws RX4 TX4 9, w ∈ wsX4_would := fun w h => List.mem_cons_of_mem _ (List.mem_append_left _ (List.mem_append_right _ h))
  have hf_110 := hts (.fieldLink RX4 110 "MajorityIndex$Row" "cell" "[I") (List.mem_of_getElem? (i := 3) rfl)
  have hi_0 : ∀ w ∈ u_ws RX0 TX0 2, w ∈ wsX4_would := fun w h => List.mem_cons_of_mem _ (List.mem_append_right _ h)
  have hk_102 := hts (.constant RX4 102 (-40000)) (List.mem_of_getElem? (i := 2) rfl)
  refine lv_aload_n hx hb dX4_would_0 rfl (lv_at hl 0 rfl) ?_
  refine va_get (D := (dC, dI)) (ci := 4) (v := .ref q_row) (C := RX4) (T := TX4) (N := 9) hx hb hts hi_4 hown hK hP 0 rfl rfl 0 (by decide) hf_12 (fun _ h9 => h9) rfl dX4_would_1 ?_
  refine lv_iload_n hx hb dX4_would_4 rfl (lv_at hl 1 rfl) ?_
  have hPc := hP.sub (ws' := [kx_0 q_row q_cell len]) [1] rfl
  have hKc := hK.sub (tys' := []) [] rfl
  refine vp_callSi (W.runV (As := [.int p0]) (rest := []) ⟨hx, hb, hml, hown, hts⟩ (c_X0_hasPlace l dC dI q_row q_cell len p0) (cwV 1 hts gX4_would_X0_hasPlace rfl rfl rfl (by decide +kernel) ⟨Nat.le_of_ble_eq_true rfl, Nat.le_of_ble_eq_true rfl⟩) ⟨fun a U g mk q => by obtain ⟨q0, qP, qK⟩ := q; exact ⟨q0, qP, va_K.moved (u := U) (U := U.calling g mk a) (Vm.Alike.refl U.vm) qK⟩, kx_rc0 hKc hPc (q0 := 0) rfl, fun U hU hW => ⟨rfl, by rw [hU]; exact hPc, va_K.moved hW.alike hKc⟩⟩ rfl rfl hl.1 rfl (lv_room (Nat.le_of_ble_eq_true rfl)) dX4_would_5 ⟨Nat.le_of_ble_eq_true rfl, Nat.le_of_ble_eq_true rfl⟩) (fun r_1 w_1 => ?_)
  rcases w_1 with ⟨rfl, w_1⟩ | ⟨rfl, w_1⟩
  · have w_1 : (0 ≤ p0.toInt ∧ p0.toInt < len.toInt) := w_1
    refine lv_if_eq (tgt := 31) hx hb dX4_would_8 (by decide) (fun c_2 => ?_) (fun c_2 => ?_)
    · exact absurd c_2 (by decide)
    · refine lv_iload_n hx hb dX4_would_11 rfl (lv_at hl 2 rfl) ?_
      have hPc := hP.sub (ws' := []) [] rfl
      have hKc := hK.sub (tys' := []) [] rfl
      refine vp_callSi (W.runS (As := [.int p1]) (rest := []) ⟨hx, hb, hml, hown, hts⟩ (c_X4_isValue l dC dI p1) (va_cwS 1 hts gX4_would_X4_isValue rfl rfl rfl (by decide +kernel) ⟨Nat.le_of_ble_eq_true rfl, Nat.le_of_ble_eq_true rfl⟩) ⟨fun a U g mk q => by obtain ⟨q0, qP, qK⟩ := q; exact ⟨q0, qP, va_K.moved (u := U) (U := U.calling g mk a) (Vm.Alike.refl U.vm) qK⟩, fun U hU hW => ⟨rfl, by rw [hU]; exact hPc, va_K.moved hW.alike hKc⟩⟩ rfl rfl hl.1 rfl (lv_room (Nat.le_of_ble_eq_true rfl)) dX4_would_12 ⟨Nat.le_of_ble_eq_true rfl, Nat.le_of_ble_eq_true rfl⟩) (fun r_3 w_3 => ?_)
      rcases w_3 with ⟨rfl, w_3⟩ | ⟨rfl, w_3⟩
      · have w_3 : (-32768 ≤ p1.toInt ∧ p1.toInt ≤ 32767) := w_3
        refine lv_if_eq (tgt := 31) hx hb dX4_would_15 (by decide) (fun c_4 => ?_) (fun c_4 => ?_)
        · exact absurd c_4 (by decide)
        · refine lv_aload_n hx hb dX4_would_18 rfl (lv_at hl 0 rfl) ?_
          refine va_get (D := (dC, dI)) (ci := 4) (v := .ref q_row) (C := RX4) (T := TX4) (N := 9) hx hb hts hi_4 hown hK hP 0 rfl rfl 0 (by decide) hf_12 (fun _ h9 => h9) rfl dX4_would_19 ?_
          refine lv_iload_n hx hb dX4_would_22 rfl (lv_at hl 3 rfl) ?_
          refine lv_iload hx hb dX4_would_23 (lv_at hl 4 rfl) ?_
          have hPc := hP.sub (ws' := [kx_0 q_row q_cell len]) [1] rfl
          have hKc := hK.sub (tys' := []) [] rfl
          refine vp_callSi (W.runV (As := [.int p2, .int p3]) (rest := []) ⟨hx, hb, hml, hown, hts⟩ (c_X0_hasRange l dC dI q_row q_cell len p2 p3) (cwV 2 hts gX4_would_X0_hasRange rfl rfl rfl (by decide +kernel) ⟨Nat.le_of_ble_eq_true rfl, Nat.le_of_ble_eq_true rfl⟩) ⟨fun a U g mk q => by obtain ⟨q0, qP, qK⟩ := q; exact ⟨q0, qP, va_K.moved (u := U) (U := U.calling g mk a) (Vm.Alike.refl U.vm) qK⟩, kx_rc0 hKc hPc (q0 := 0) rfl, fun U hU hW => ⟨rfl, by rw [hU]; exact hPc, va_K.moved hW.alike hKc⟩⟩ rfl rfl hl.1 rfl (lv_room (Nat.le_of_ble_eq_true rfl)) dX4_would_25 ⟨Nat.le_of_ble_eq_true rfl, Nat.le_of_ble_eq_true rfl⟩) (fun r_5 w_5 => ?_)
          rcases w_5 with ⟨rfl, w_5⟩ | ⟨rfl, w_5⟩
          · have w_5 : (0 ≤ p2.toInt ∧ p2.toInt < p3.toInt ∧ p3.toInt ≤ len.toInt) := w_5
            refine lv_if_ne (tgt := 34) hx hb dX4_would_28 (by decide) (fun c_6 => ?_) (fun c_6 => ?_)
            · refine lv_aload_n hx hb dX4_would_34 rfl (lv_at hl 0 rfl) ?_
              refine va_get (D := (dC, dI)) (ci := 4) (v := .ref q_row) (C := RX4) (T := TX4) (N := 9) hx hb hts hi_4 hown hK hP 0 rfl rfl 0 (by decide) hf_12 (fun _ h9 => h9) rfl dX4_would_35 ?_
              refine va_get (D := (dC, dI)) (ci := 0) (v := .ref q_cell) (C := RX0) (T := TX0) (N := 2) hx hb hts hi_0 hown hK hP 1 rfl rfl 0 (by decide) hf_110 (fun _ h9 => h9) rfl dX4_would_38 ?_
              refine lv_iload_n hx hb dX4_would_41 rfl (lv_at hl 1 rfl) ?_
              refine va_iald hx hb hK hP 2 0 rfl rfl (ki_in (om_10 w_1.1) (om_1 a1 w_1.2)) dX4_would_42 ?_
              refine lv_topi (fun y_7 ey_7 => ?_)
              have j_7 : y_7.toInt = (f p0.toNatClampNeg).toInt := congrArg Int32.toInt ey_7
              refine lv_istore (lv' := [(5, .int y_7), (0, .ref m_), (1, .int p0), (2, .int p1), (3, .int p2), (4, .int p3)]) hx hb dX4_would_43 hl (by decide) rfl (fun ls hl => ?_)
              refine lv_aload_n hx hb dX4_would_45 rfl (lv_at hl 1 rfl) ?_
              refine va_get (D := (dC, dI)) (ci := 4) (v := .ref q_row) (C := RX4) (T := TX4) (N := 9) hx hb hts hi_4 hown hK hP 0 rfl rfl 0 (by decide) hf_12 (fun _ h9 => h9) rfl dX4_would_46 ?_
              refine va_get (D := (dC, dI)) (ci := 0) (v := .ref q_cell) (C := RX0) (T := TX0) (N := 2) hx hb hts hi_0 hown hK hP 1 rfl rfl 0 (by decide) hf_110 (fun _ h9 => h9) rfl dX4_would_49 ?_
              refine lv_iload_n hx hb dX4_would_52 rfl (lv_at hl 2 rfl) ?_
              refine lv_iload_n hx hb dX4_would_53 rfl (lv_at hl 3 rfl) ?_
              refine va_iast hx hb hK hP hD hS 2 0 rfl rfl (ki_in (om_10 w_1.1) (om_1 a1 w_1.2)) dX4_would_54 (fun H locs hP hD hS => ?_)
              obtain ⟨hP, hD⟩ := kx_re (w2 := [kx_4 m_ q_row q_t t_ h0 k0 w_ z_ slots old, kx_0 q_row q_cell len, kx_a q_cell cyI 160 (upd f p0.toNatClampNeg p1)]) hP hD rfl
              refine lv_aload_n hx hb dX4_would_55 rfl (lv_at hl 1 rfl) ?_
              refine va_get (D := (dC, dI)) (ci := 4) (v := .ref q_row) (C := RX4) (T := TX4) (N := 9) hx hb hts hi_4 hown hK hP 0 rfl rfl 0 (by decide) hf_12 (fun _ h9 => h9) rfl dX4_would_56 ?_
              refine lv_iload_n hx hb dX4_would_59 rfl (lv_at hl 4 rfl) ?_
              refine lv_iload hx hb dX4_would_60 (lv_at hl 5 rfl) ?_
              have hPc := hP.sub (ws' := [kx_0 q_row q_cell len, kx_a q_cell cyI 160 (upd f p0.toNatClampNeg p1)]) [1, 2] rfl
              have hKc := hK
              refine vp_callSi (W.runV (As := [.int p2, .int p3]) (rest := []) ⟨hx, hb, hml, hown, hts⟩ (c_X0_leader l dC dI q_row q_cell cyI len (upd f p0.toNatClampNeg p1) p2 p3 (om_10 w_5.1) (om_167 a1 w_5.2.2)) (cwV 2 hts gX4_would_X0_leader rfl rfl rfl (by decide +kernel) ⟨Nat.le_of_ble_eq_true rfl, Nat.le_of_ble_eq_true rfl⟩) ⟨fun a U g mk q => by obtain ⟨q0, qP, qK, qn0⟩ := q; exact ⟨q0, qP, va_K.moved (u := U) (U := U.calling g mk a) (Vm.Alike.refl U.vm) qK, va_Nw.same (u := U) (U := U.calling g mk a) rfl rfl qn0⟩, kx_rc0 hKc hPc (q0 := 0) rfl, fun U hU hW => ⟨rfl, by rw [hU]; exact hPc, va_K.moved hW.alike hKc, va_Nw.warmM hW hN0⟩⟩ rfl rfl hl.1 rfl (lv_room (Nat.le_of_ble_eq_true rfl)) dX4_would_62 ⟨Nat.le_of_ble_eq_true rfl, Nat.le_of_ble_eq_true rfl⟩) (fun r_8 w_8 => ?_)
              refine lv_istore (lv' := [(6, .int r_8), (5, .int y_7), (0, .ref m_), (1, .int p0), (2, .int p1), (3, .int p2), (4, .int p3)]) hx hb dX4_would_65 hl (by decide) rfl (fun ls hl => ?_)
              refine lv_aload_n hx hb dX4_would_67 rfl (lv_at hl 2 rfl) ?_
              refine va_get (D := (dC, dI)) (ci := 4) (v := .ref q_row) (C := RX4) (T := TX4) (N := 9) hx hb hts hi_4 hown hK hP 0 rfl rfl 0 (by decide) hf_12 (fun _ h9 => h9) rfl dX4_would_68 ?_
              refine va_get (D := (dC, dI)) (ci := 0) (v := .ref q_cell) (C := RX0) (T := TX0) (N := 2) hx hb hts hi_0 hown hK hP 1 rfl rfl 0 (by decide) hf_110 (fun _ h9 => h9) rfl dX4_would_71 ?_
              refine lv_iload_n hx hb dX4_would_74 rfl (lv_at hl 3 rfl) ?_
              refine lv_iload hx hb dX4_would_75 (lv_at hl 1 rfl) ?_
              refine va_iast hx hb hK hP hD hS 2 0 rfl rfl (ki_in (om_10 w_1.1) (om_1 a1 w_1.2)) dX4_would_77 (fun H locs hP hD hS => ?_)
              obtain ⟨hP, hD⟩ := kx_re (w2 := [kx_4 m_ q_row q_t t_ h0 k0 w_ z_ slots old, kx_0 q_row q_cell len, kx_a q_cell cyI 160 (upd (upd f p0.toNatClampNeg p1) p0.toNatClampNeg y_7)]) hP hD rfl
              refine lv_iload hx hb dX4_would_78 (lv_at hl 0 rfl) ?_
              have hP9 := hP
              have hD9 := hD
              have hK9 := hK
              exact W.iret (v := r_8) hx hb hr (hlocks := hlocks) (fun t ht hW => ⟨⟨r_8, ((upd (upd f p0.toNatClampNeg p1) p0.toNatClampNeg y_7)), rfl, (by (try dsimp only); rw [ey_7]; exact upd_back _ _ _), by rw [ht]; exact hP9, va_K.moved hW.alike hK9, hD9⟩, hS.F ht⟩) hS.2.2 dX4_would_80
            · exact absurd c_6 (by decide)
          · have w_5 : (p2.toInt < 0 ∨ p3.toInt ≤ p2.toInt ∨ len.toInt < p3.toInt) := w_5
            refine lv_if_ne (tgt := 34) hx hb dX4_would_28 (by decide) (fun c_9 => ?_) (fun c_9 => ?_)
            · exact absurd c_9 (by decide)
            · refine lv_ldc (v := (-40000)) hx hb hown hk_102 dX4_would_31 ?_
              have hP9 := hP
              have hD9 := hD
              have hK9 := hK
              exact W.iret (v := (-40000)) hx hb hr (hlocks := hlocks) (fun t ht hW => ⟨⟨(-40000), (f), rfl, rfl, by rw [ht]; exact hP9, va_K.moved hW.alike hK9, hD9⟩, hS.F ht⟩) hS.2.2 dX4_would_33
      · have w_3 : (p1.toInt < -32768 ∨ 32767 < p1.toInt) := w_3
        refine lv_if_eq (tgt := 31) hx hb dX4_would_15 (by decide) (fun c_10 => ?_) (fun c_10 => ?_)
        · refine lv_ldc (v := (-40000)) hx hb hown hk_102 dX4_would_31 ?_
          have hP9 := hP
          have hD9 := hD
          have hK9 := hK
          exact W.iret (v := (-40000)) hx hb hr (hlocks := hlocks) (fun t ht hW => ⟨⟨(-40000), (f), rfl, rfl, by rw [ht]; exact hP9, va_K.moved hW.alike hK9, hD9⟩, hS.F ht⟩) hS.2.2 dX4_would_33
        · exact absurd c_10 (by decide)
  · have w_1 : (p0.toInt < 0 ∨ len.toInt ≤ p0.toInt) := w_1
    refine lv_if_eq (tgt := 31) hx hb dX4_would_8 (by decide) (fun c_11 => ?_) (fun c_11 => ?_)
    · refine lv_ldc (v := (-40000)) hx hb hown hk_102 dX4_would_31 ?_
      have hP9 := hP
      have hD9 := hD
      have hK9 := hK
      exact W.iret (v := (-40000)) hx hb hr (hlocks := hlocks) (fun t ht hW => ⟨⟨(-40000), (f), rfl, rfl, by rw [ht]; exact hP9, va_K.moved hW.alike hK9, hD9⟩, hS.F ht⟩) hS.2.2 dX4_would_33
    · exact absurd c_11 (by decide)

set_option maxHeartbeats 4000000 in
set_option maxRecDepth 100000 in
theorem c_X4_values (l : Launch) (dC : Nat → ClassId) (dI : Nat → Nat → Nat) (m_ : Nat) (q_row : Nat) (q_t : Nat) (t_ : Nat) (h0 : Nat) (k0 : Nat) (w_ : Nat) (z_ : Nat) (slots : Int32) (old : Int32) (q_cell : Nat) (cyI : ClassId) (len : Int32) (f : Nat → Int32) (t_k : Nat) (t_o : Nat) (tk : Int32) (mo : Int32) (fk : Nat → Int32) (fq : Nat → Int32) (sz : Nat) (a0 : 0 ≤ len.toInt) (a1 : len.toInt ≤ 160) : kx_MQ l (dC, dI) yX4_values wsX4_values ({ frames := 2, cells := 0, slots := 0, locals := 90 }) [.ref m_] [kx_4 m_ q_row q_t t_ h0 k0 w_ z_ slots old, kx_0 q_row q_cell len, kx_a q_cell cyI 160 f, kx_1 t_ t_k t_o tk mo, kx_a t_k cyI 160 fk, kx_a t_o cyI 160 fq] [(cyI, .int)] sz (fun A => va_Qi (fun (r : Int32) (u : Int32 × Int32 × (Nat → Int32) × (Nat → Int32)) => True) (fun (u : Int32 × Int32 × (Nat → Int32) × (Nat → Int32)) (t : State) => va_P (dC, dI) vwCl [kx_4 m_ q_row q_t t_ h0 k0 w_ z_ slots old, kx_0 q_row q_cell len, kx_a q_cell cyI 160 f, kx_1 t_ t_k t_o u.1 u.2.1, kx_a t_k cyI 160 u.2.2.1, kx_a t_o cyI 160 u.2.2.2] t.heap ∧ va_K (dC, dI) vwCl [(cyI, .int)] t ∧ va_D A [kx_4 m_ q_row q_t t_ h0 k0 w_ z_ slots old, kx_0 q_row q_cell len, kx_a q_cell cyI 160 f, kx_1 t_ t_k t_o u.1 u.2.1, kx_a t_k cyI 160 u.2.2.1, kx_a t_o cyI 160 u.2.2.2]) A) := by
  refine kx_stQ (ws := wsX4_values) (cc := cX4_values) (maxL := 3) (ret := (some .int)) (by decide) rfl (Nat.le_of_ble_eq_true rfl) ?_
  intro p e s m below meth c A ls hx hb hr hlocks hts hown hml hA hS hP hK hD hl
  have hown : s.vm.findClass RX4 = some m.cls := hown
  have hl : lv_has ls 3 [(0, .ref m_)] := hl
  have hf_28 := hts (.fieldLink RX4 28 "MajorityIndex" "tally" "LMajorityIndex$Tally;") (List.mem_of_getElem? (i := 1) rfl)
  have hi_4 : ∀ w ∈ u_ws RX4 TX4 9, w ∈ wsX4_values := fun w h => List.mem_cons_of_mem _ (List.mem_append_left _ (List.mem_append_left _ (List.mem_append_right _ h)))
  have hf_12 := hts (.fieldLink RX4 12 "MajorityIndex" "row" "LMajorityIndex$Row;") (List.mem_of_getElem? (i := 2) rfl)
  have hf_57 := hts (.fieldLink RX4 57 "MajorityIndex$Row" "length" "I") (List.mem_of_getElem? (i := 3) rfl)
  have hi_0 : ∀ w ∈ u_ws RX0 TX0 2, w ∈ wsX4_values := fun w h => List.mem_cons_of_mem _ (List.mem_append_left _ (List.mem_append_right _ h))
  have hf_120 := hts (.fieldLink RX4 120 "MajorityIndex$Tally" "kind" "[I") (List.mem_of_getElem? (i := 4) rfl)
  have hi_1 : ∀ w ∈ u_ws RX1 TX1 4, w ∈ wsX4_values := fun w h => List.mem_cons_of_mem _ (List.mem_append_right _ h)
  refine lv_aload_n hx hb dX4_values_0 rfl (lv_at hl 0 rfl) ?_
  refine va_get (D := (dC, dI)) (ci := 4) (v := .ref t_) (C := RX4) (T := TX4) (N := 9) hx hb hts hi_4 hown hK hP 0 rfl rfl 2 (by decide) hf_28 (fun _ h9 => h9) rfl dX4_values_1 ?_
  refine lv_aload_n hx hb dX4_values_4 rfl (lv_at hl 0 rfl) ?_
  refine va_get (D := (dC, dI)) (ci := 4) (v := .ref q_row) (C := RX4) (T := TX4) (N := 9) hx hb hts hi_4 hown hK hP 0 rfl rfl 0 (by decide) hf_12 (fun _ h9 => h9) rfl dX4_values_5 ?_
  obtain ⟨hPc, hDc, hFc, hCc⟩ := kx_pre (wc := [kx_1 t_ t_k t_o tk mo, kx_a t_k cyI 160 fk, kx_0 q_row q_cell len, kx_a q_cell cyI 160 f]) hP hD hS hA [3, 4, 1, 2] (by decide) rfl
  have hKc := hK
  refine va_callv (va_runV (As := [.ref q_row]) (rest := []) ⟨hx, hb, hml, hown, hts⟩ (kx_un (c_X1_learn l dC dI t_ t_k t_o cyI tk mo fk q_row q_cell len f s.heap.size a0 a1)) (cwV 1 hts gX4_values_X1_learn rfl rfl rfl (by decide +kernel) ⟨Nat.le_of_ble_eq_true rfl, Nat.le_of_ble_eq_true rfl⟩) ⟨fun a U g mk q => by obtain ⟨q0, q1, qP, qK, qD⟩ := q; exact ⟨q0, q1, qP, va_K.moved (u := U) (U := U.calling g mk a) (Vm.Alike.refl U.vm) qK, qD⟩, kx_rc1 hKc hPc (q0 := 0) rfl, fun U hU hW => ⟨rfl, by rw [hU], by rw [hU]; exact hPc, va_K.moved hW.alike hKc, hDc.weaken (fun _ _ _ _ => trivial)⟩⟩ rfl rfl hl.1 rfl (lv_room (Nat.le_of_ble_eq_true rfl)) dX4_values_8 ⟨Nat.le_of_ble_eq_true rfl, Nat.le_of_ble_eq_true rfl⟩) hS (fun q _ h => hFc q h) hFc (fun u t H1 locs ht hvm w_1 hB hz1 hk1 hS => ?_)
  obtain ⟨o_2, rfl⟩ : ∃ z, z = u := ⟨_, rfl⟩
  obtain ⟨hP1, hK1, hD1⟩ := hB
  rw [ht] at hP1
  have hK1 := va_K.moved hvm.symm hK1
  obtain ⟨hP, hD⟩ := kx_join (w2 := [kx_4 m_ q_row q_t t_ h0 k0 w_ z_ slots old, kx_a t_o cyI 160 fq, kx_1 t_ t_k t_o tk mo, kx_a t_k cyI 160 o_2, kx_0 q_row q_cell len, kx_a q_cell cyI 160 f]) hP hD hP1 hD1 hk1 hFc [3, 4, 1, 2] [0, 5] hCc rfl (by decide) (by decide)
  clear hP1 hD1 hK1 hk1 hz1 hFc hDc hPc hKc hCc
  generalize H1 = H at hP hS ⊢
  have w_1 : kindOk o_2 len.toInt := w_1
  refine lv_iconst (v := 0) hx hb dX4_values_11 (by decide) ?_
  refine lv_istore_n (lv' := [(1, .int 0), (0, .ref m_)]) hx hb dX4_values_12 rfl hl (by decide) rfl (fun ls hl => ?_)
  refine lv_iconst (v := 0) hx hb dX4_values_13 (by decide) ?_
  refine lv_istore_n (lv' := [(2, .int 0), (1, .int 0), (0, .ref m_)]) hx hb dX4_values_14 rfl hl (by decide) rfl (fun ls hl => ?_)
  have LP1 : ∀ (n : Nat) (i : Int32) (un : Int32), (0 ≤ i.toInt) → (len.toInt - i.toInt).toNat < n → ∀ (H : Heap) (locs : List Loc), va_P (dC, dI) vwCl [kx_4 m_ q_row q_t t_ h0 k0 w_ z_ slots old, kx_a t_o cyI 160 fq, kx_1 t_ t_k t_o tk mo, kx_a t_k cyI 160 o_2, kx_0 q_row q_cell len, kx_a q_cell cyI 160 f] H → va_D A [kx_4 m_ q_row q_t t_ h0 k0 w_ z_ slots old, kx_a t_o cyI 160 fq, kx_1 t_ t_k t_o tk mo, kx_a t_k cyI 160 o_2, kx_0 q_row q_cell len, kx_a q_cell cyI 160 f] → va_S A s.heap H locs → ∀ (ls : Array Slot), lv_has ls 3 [(2, .int i), (1, .int un), (0, .ref m_)] → W p l e (headSpec wsX4_values ({ frames := 2, cells := 0, slots := 0, locals := 90 })).room s m ([.ref m_] : List Value).toArray below meth c H locs 0 0 (MQ below (va_Qi (fun (r : Int32) (u : Int32 × Int32 × (Nat → Int32) × (Nat → Int32)) => True) (fun (u : Int32 × Int32 × (Nat → Int32) × (Nat → Int32)) (t : State) => va_P (dC, dI) vwCl [kx_4 m_ q_row q_t t_ h0 k0 w_ z_ slots old, kx_0 q_row q_cell len, kx_a q_cell cyI 160 f, kx_1 t_ t_k t_o u.1 u.2.1, kx_a t_k cyI 160 u.2.2.1, kx_a t_o cyI 160 u.2.2.2] t.heap ∧ va_K (dC, dI) vwCl [(cyI, .int)] t ∧ va_D A [kx_4 m_ q_row q_t t_ h0 k0 w_ z_ slots old, kx_0 q_row q_cell len, kx_a q_cell cyI 160 f, kx_1 t_ t_k t_o u.1 u.2.1, kx_a t_k cyI 160 u.2.2.1, kx_a t_o cyI 160 u.2.2.2]) A) ([.ref m_] : List Value).toArray s 0 0 A) (F0 m 15 ls []) := by
    intro n
    induction n with
    | zero => intro i un LP1_h0 hn; exact absurd hn (Nat.not_lt_zero _)
    | succ n ih1 =>
      intro i un LP1_h0 hn1 H locs hP hD hS ls hl
      refine lv_iload_n hx hb dX4_values_15 rfl (lv_at hl 0 rfl) ?_
      refine lv_aload_n hx hb dX4_values_16 rfl (lv_at hl 2 rfl) ?_
      refine va_get (D := (dC, dI)) (ci := 4) (v := .ref q_row) (C := RX4) (T := TX4) (N := 9) hx hb hts hi_4 hown hK hP 0 rfl rfl 0 (by decide) hf_12 (fun _ h9 => h9) rfl dX4_values_17 ?_
      refine va_get (D := (dC, dI)) (ci := 0) (v := .int len) (C := RX0) (T := TX0) (N := 2) hx hb hts hi_0 hown hK hP 4 rfl rfl 1 (by decide) hf_57 (fun _ h9 => h9) rfl dX4_values_20 ?_
      refine lv_icmp_ge (tgt := 48) hx hb dX4_values_23 (by decide) (fun c_3 => ?_) (fun c_3 => ?_)
      · have i_3 : len.toInt ≤ i.toInt := kc_le c_3
        refine lv_iload_n hx hb dX4_values_48 rfl (lv_at hl 1 rfl) ?_
        obtain ⟨hP9, hD9⟩ := kx_sub (w2 := [kx_4 m_ q_row q_t t_ h0 k0 w_ z_ slots old, kx_0 q_row q_cell len, kx_a q_cell cyI 160 f, kx_1 t_ t_k t_o tk mo, kx_a t_k cyI 160 o_2, kx_a t_o cyI 160 fq]) hP hD [0, 4, 5, 2, 3, 1] (by decide) rfl
        have hK9 := hK
        exact W.iret (v := un) hx hb hr (hlocks := hlocks) (fun t ht hW => ⟨⟨un, (tk, mo, o_2, fq), rfl, trivial, by rw [ht]; exact hP9, va_K.moved hW.alike hK9, hD9⟩, hS.F ht⟩) hS.2.2 dX4_values_49
      · have i_3 : i.toInt < len.toInt := kc_nle c_3
        refine lv_aload_n hx hb dX4_values_26 rfl (lv_at hl 2 rfl) ?_
        refine va_get (D := (dC, dI)) (ci := 4) (v := .ref t_) (C := RX4) (T := TX4) (N := 9) hx hb hts hi_4 hown hK hP 0 rfl rfl 2 (by decide) hf_28 (fun _ h9 => h9) rfl dX4_values_27 ?_
        refine va_get (D := (dC, dI)) (ci := 1) (v := .ref t_k) (C := RX1) (T := TX1) (N := 4) hx hb hts hi_1 hown hK hP 2 rfl rfl 0 (by decide) hf_120 (fun _ h9 => h9) rfl dX4_values_30 ?_
        refine lv_iload_n hx hb dX4_values_33 rfl (lv_at hl 0 rfl) ?_
        refine va_iald hx hb hK hP 3 0 rfl rfl (ki_in (om_10 LP1_h0) (om_1 a1 i_3)) dX4_values_34 ?_
        refine lv_topi (fun y_4 ey_4 => ?_)
        have j_4 : y_4.toInt = (o_2 i.toNatClampNeg).toInt := congrArg Int32.toInt ey_4
        refine lv_iload_n hx hb dX4_values_35 rfl (lv_at hl 0 rfl) ?_
        refine lv_icmp_ne (tgt := 42) hx hb dX4_values_36 (by decide) (fun c_5 => ?_) (fun c_5 => ?_)
        · have i_5 : ¬ y_4.toInt = i.toInt := kc_ne c_5
          obtain ⟨x_6, ex_6⟩ : ∃ y : Int32, y = i + 1 := ⟨_, rfl⟩
          have i_6 : x_6.toInt = i.toInt + 1 := ki_add ex_6 rfl rfl (om_13 LP1_h0) (om_3 a1 i_3)
          refine lv_iinc (v := x_6) (lv' := [(2, .int x_6), (1, .int un), (0, .ref m_)]) hx hb dX4_values_42 hl (k := 0) rfl (by rw [ex_6]; rfl) (by decide) rfl (fun ls hl => ?_)
          refine lv_goto (tgt := 15) hx hb dX4_values_45 (by decide) ?_
          exact ih1 x_6 un (om_34 LP1_h0 i_6) (om_mu hn1 (om_5 i_6) (om_6 i_3)) _ _ hP hD hS ls (lv_sub hl [0, 1, 2] rfl)
        · have i_5 : y_4.toInt = i.toInt := kc_eq c_5
          obtain ⟨x_7, ex_7⟩ : ∃ y : Int32, y = un + 1 := ⟨_, rfl⟩
          refine lv_iinc (v := x_7) (lv' := [(1, .int x_7), (2, .int i), (0, .ref m_)]) hx hb dX4_values_39 hl (k := 1) rfl (by rw [ex_7]; rfl) (by decide) rfl (fun ls hl => ?_)
          obtain ⟨x_8, ex_8⟩ : ∃ y : Int32, y = i + 1 := ⟨_, rfl⟩
          have i_8 : x_8.toInt = i.toInt + 1 := ki_add ex_8 rfl rfl (om_13 LP1_h0) (om_3 a1 i_3)
          refine lv_iinc (v := x_8) (lv' := [(2, .int x_8), (1, .int x_7), (0, .ref m_)]) hx hb dX4_values_42 hl (k := 1) rfl (by rw [ex_8]; rfl) (by decide) rfl (fun ls hl => ?_)
          refine lv_goto (tgt := 15) hx hb dX4_values_45 (by decide) ?_
          exact ih1 x_8 x_7 (om_34 LP1_h0 i_8) (om_mu hn1 (om_5 i_8) (om_6 i_3)) _ _ hP hD hS ls (lv_sub hl [0, 1, 2] rfl)
  have k_9 : (0 : Int32).toInt = 0 := rfl
  have k_10 : (0 : Int32).toInt = 0 := rfl
  exact LP1 ((len.toInt - 0 : Int).toNat + 1) 0 0 om_35 (Nat.lt_succ_self _) _ _ hP hD hS ls (lv_sub hl [0, 1, 2] rfl)

set_option maxHeartbeats 4000000 in
set_option maxRecDepth 100000 in
theorem c_X4_majorities (l : Launch) (dC : Nat → ClassId) (dI : Nat → Nat → Nat) (m_ : Nat) (q_row : Nat) (q_t : Nat) (t_ : Nat) (h0 : Nat) (k0 : Nat) (w_ : Nat) (z_ : Nat) (slots : Int32) (old : Int32) (q_cell : Nat) (cyI : ClassId) (len : Int32) (f : Nat → Int32) (t_k : Nat) (t_o : Nat) (tk : Int32) (mo : Int32) (fk : Nat → Int32) (fq : Nat → Int32) (sz : Nat) (a0 : 0 ≤ len.toInt) (a1 : len.toInt ≤ 160) : kx_MQ l (dC, dI) yX4_majorities wsX4_majorities ({ frames := 2, cells := 0, slots := 0, locals := 90 }) [.ref m_] [kx_4 m_ q_row q_t t_ h0 k0 w_ z_ slots old, kx_0 q_row q_cell len, kx_a q_cell cyI 160 f, kx_1 t_ t_k t_o tk mo, kx_a t_k cyI 160 fk, kx_a t_o cyI 160 fq] [(cyI, .int)] sz (fun A => va_Qi (fun (r : Int32) (u : Int32 × Int32 × (Nat → Int32) × (Nat → Int32)) => True) (fun (u : Int32 × Int32 × (Nat → Int32) × (Nat → Int32)) (t : State) => va_P (dC, dI) vwCl [kx_4 m_ q_row q_t t_ h0 k0 w_ z_ slots old, kx_0 q_row q_cell len, kx_a q_cell cyI 160 f, kx_1 t_ t_k t_o u.1 u.2.1, kx_a t_k cyI 160 u.2.2.1, kx_a t_o cyI 160 u.2.2.2] t.heap ∧ va_K (dC, dI) vwCl [(cyI, .int)] t ∧ va_D A [kx_4 m_ q_row q_t t_ h0 k0 w_ z_ slots old, kx_0 q_row q_cell len, kx_a q_cell cyI 160 f, kx_1 t_ t_k t_o u.1 u.2.1, kx_a t_k cyI 160 u.2.2.1, kx_a t_o cyI 160 u.2.2.2]) A) := by
  refine kx_stQ (ws := wsX4_majorities) (cc := cX4_majorities) (maxL := 4) (ret := (some .int)) (by decide) rfl (Nat.le_of_ble_eq_true rfl) ?_
  intro p e s m below meth c A ls hx hb hr hlocks hts hown hml hA hS hP hK hD hl
  have hown : s.vm.findClass RX4 = some m.cls := hown
  have hl : lv_has ls 4 [(0, .ref m_)] := hl
  have hf_28 := hts (.fieldLink RX4 28 "MajorityIndex" "tally" "LMajorityIndex$Tally;") (List.mem_of_getElem? (i := 1) rfl)
  have hi_4 : ∀ w ∈ u_ws RX4 TX4 9, w ∈ wsX4_majorities := fun w h => List.mem_cons_of_mem _ (List.mem_append_left _ (List.mem_append_left _ (List.mem_append_right _ h)))
  have hf_12 := hts (.fieldLink RX4 12 "MajorityIndex" "row" "LMajorityIndex$Row;") (List.mem_of_getElem? (i := 2) rfl)
  have hf_57 := hts (.fieldLink RX4 57 "MajorityIndex$Row" "length" "I") (List.mem_of_getElem? (i := 3) rfl)
  have hi_0 : ∀ w ∈ u_ws RX0 TX0 2, w ∈ wsX4_majorities := fun w h => List.mem_cons_of_mem _ (List.mem_append_left _ (List.mem_append_right _ h))
  refine lv_aload_n hx hb dX4_majorities_0 rfl (lv_at hl 0 rfl) ?_
  refine va_get (D := (dC, dI)) (ci := 4) (v := .ref t_) (C := RX4) (T := TX4) (N := 9) hx hb hts hi_4 hown hK hP 0 rfl rfl 2 (by decide) hf_28 (fun _ h9 => h9) rfl dX4_majorities_1 ?_
  refine lv_aload_n hx hb dX4_majorities_4 rfl (lv_at hl 0 rfl) ?_
  refine va_get (D := (dC, dI)) (ci := 4) (v := .ref q_row) (C := RX4) (T := TX4) (N := 9) hx hb hts hi_4 hown hK hP 0 rfl rfl 0 (by decide) hf_12 (fun _ h9 => h9) rfl dX4_majorities_5 ?_
  obtain ⟨hPc, hDc, hFc, hCc⟩ := kx_pre (wc := [kx_1 t_ t_k t_o tk mo, kx_a t_k cyI 160 fk, kx_0 q_row q_cell len, kx_a q_cell cyI 160 f]) hP hD hS hA [3, 4, 1, 2] (by decide) rfl
  have hKc := hK
  refine va_callv (va_runV (As := [.ref q_row]) (rest := []) ⟨hx, hb, hml, hown, hts⟩ (kx_un (c_X1_learn l dC dI t_ t_k t_o cyI tk mo fk q_row q_cell len f s.heap.size a0 a1)) (cwV 1 hts gX4_majorities_X1_learn rfl rfl rfl (by decide +kernel) ⟨Nat.le_of_ble_eq_true rfl, Nat.le_of_ble_eq_true rfl⟩) ⟨fun a U g mk q => by obtain ⟨q0, q1, qP, qK, qD⟩ := q; exact ⟨q0, q1, qP, va_K.moved (u := U) (U := U.calling g mk a) (Vm.Alike.refl U.vm) qK, qD⟩, kx_rc1 hKc hPc (q0 := 0) rfl, fun U hU hW => ⟨rfl, by rw [hU], by rw [hU]; exact hPc, va_K.moved hW.alike hKc, hDc.weaken (fun _ _ _ _ => trivial)⟩⟩ rfl rfl hl.1 rfl (lv_room (Nat.le_of_ble_eq_true rfl)) dX4_majorities_8 ⟨Nat.le_of_ble_eq_true rfl, Nat.le_of_ble_eq_true rfl⟩) hS (fun q _ h => hFc q h) hFc (fun u t H1 locs ht hvm w_1 hB hz1 hk1 hS => ?_)
  obtain ⟨o_2, rfl⟩ : ∃ z, z = u := ⟨_, rfl⟩
  obtain ⟨hP1, hK1, hD1⟩ := hB
  rw [ht] at hP1
  have hK1 := va_K.moved hvm.symm hK1
  obtain ⟨hP, hD⟩ := kx_join (w2 := [kx_4 m_ q_row q_t t_ h0 k0 w_ z_ slots old, kx_a t_o cyI 160 fq, kx_1 t_ t_k t_o tk mo, kx_a t_k cyI 160 o_2, kx_0 q_row q_cell len, kx_a q_cell cyI 160 f]) hP hD hP1 hD1 hk1 hFc [3, 4, 1, 2] [0, 5] hCc rfl (by decide) (by decide)
  clear hP1 hD1 hK1 hk1 hz1 hFc hDc hPc hKc hCc
  generalize H1 = H at hP hS ⊢
  have w_1 : kindOk o_2 len.toInt := w_1
  refine lv_iconst (v := 0) hx hb dX4_majorities_11 (by decide) ?_
  refine lv_istore_n (lv' := [(1, .int 0), (0, .ref m_)]) hx hb dX4_majorities_12 rfl hl (by decide) rfl (fun ls hl => ?_)
  refine lv_iconst (v := 0) hx hb dX4_majorities_13 (by decide) ?_
  refine lv_istore_n (lv' := [(2, .int 0), (1, .int 0), (0, .ref m_)]) hx hb dX4_majorities_14 rfl hl (by decide) rfl (fun ls hl => ?_)
  have LP1 : ∀ (n : Nat) (i : Int32) (many : Int32) (a_t : Int32) (a_m : Int32) (a_q : Nat → Int32), (0 ≤ i.toInt) → (len.toInt - i.toInt).toNat < n → ∀ (H : Heap) (locs : List Loc), va_P (dC, dI) vwCl [kx_4 m_ q_row q_t t_ h0 k0 w_ z_ slots old, kx_a t_o cyI 160 a_q, kx_1 t_ t_k t_o a_t a_m, kx_a t_k cyI 160 o_2, kx_0 q_row q_cell len, kx_a q_cell cyI 160 f] H → va_D A [kx_4 m_ q_row q_t t_ h0 k0 w_ z_ slots old, kx_a t_o cyI 160 a_q, kx_1 t_ t_k t_o a_t a_m, kx_a t_k cyI 160 o_2, kx_0 q_row q_cell len, kx_a q_cell cyI 160 f] → va_S A s.heap H locs → ∀ (ls : Array Slot), lv_has ls 4 [(2, .int i), (1, .int many), (0, .ref m_)] → W p l e (headSpec wsX4_majorities ({ frames := 2, cells := 0, slots := 0, locals := 90 })).room s m ([.ref m_] : List Value).toArray below meth c H locs 0 0 (MQ below (va_Qi (fun (r : Int32) (u : Int32 × Int32 × (Nat → Int32) × (Nat → Int32)) => True) (fun (u : Int32 × Int32 × (Nat → Int32) × (Nat → Int32)) (t : State) => va_P (dC, dI) vwCl [kx_4 m_ q_row q_t t_ h0 k0 w_ z_ slots old, kx_0 q_row q_cell len, kx_a q_cell cyI 160 f, kx_1 t_ t_k t_o u.1 u.2.1, kx_a t_k cyI 160 u.2.2.1, kx_a t_o cyI 160 u.2.2.2] t.heap ∧ va_K (dC, dI) vwCl [(cyI, .int)] t ∧ va_D A [kx_4 m_ q_row q_t t_ h0 k0 w_ z_ slots old, kx_0 q_row q_cell len, kx_a q_cell cyI 160 f, kx_1 t_ t_k t_o u.1 u.2.1, kx_a t_k cyI 160 u.2.2.1, kx_a t_o cyI 160 u.2.2.2]) A) ([.ref m_] : List Value).toArray s 0 0 A) (F0 m 15 ls []) := by
    intro n
    induction n with
    | zero => intro i many a_t a_m a_q LP1_h0 hn; exact absurd hn (Nat.not_lt_zero _)
    | succ n ih1 =>
      intro i many a_t a_m a_q LP1_h0 hn1 H locs hP hD hS ls hl
      refine lv_iload_n hx hb dX4_majorities_15 rfl (lv_at hl 0 rfl) ?_
      refine lv_aload_n hx hb dX4_majorities_16 rfl (lv_at hl 2 rfl) ?_
      refine va_get (D := (dC, dI)) (ci := 4) (v := .ref q_row) (C := RX4) (T := TX4) (N := 9) hx hb hts hi_4 hown hK hP 0 rfl rfl 0 (by decide) hf_12 (fun _ h9 => h9) rfl dX4_majorities_17 ?_
      refine va_get (D := (dC, dI)) (ci := 0) (v := .int len) (C := RX0) (T := TX0) (N := 2) hx hb hts hi_0 hown hK hP 4 rfl rfl 1 (by decide) hf_57 (fun _ h9 => h9) rfl dX4_majorities_20 ?_
      refine lv_icmp_ge (tgt := 79) hx hb dX4_majorities_23 (by decide) (fun c_3 => ?_) (fun c_3 => ?_)
      · have i_3 : len.toInt ≤ i.toInt := kc_le c_3
        refine lv_iload_n hx hb dX4_majorities_79 rfl (lv_at hl 1 rfl) ?_
        obtain ⟨hP9, hD9⟩ := kx_sub (w2 := [kx_4 m_ q_row q_t t_ h0 k0 w_ z_ slots old, kx_0 q_row q_cell len, kx_a q_cell cyI 160 f, kx_1 t_ t_k t_o a_t a_m, kx_a t_k cyI 160 o_2, kx_a t_o cyI 160 a_q]) hP hD [0, 4, 5, 2, 3, 1] (by decide) rfl
        have hK9 := hK
        exact W.iret (v := many) hx hb hr (hlocks := hlocks) (fun t ht hW => ⟨⟨many, (a_t, a_m, o_2, a_q), rfl, trivial, by rw [ht]; exact hP9, va_K.moved hW.alike hK9, hD9⟩, hS.F ht⟩) hS.2.2 dX4_majorities_80
      · have i_3 : i.toInt < len.toInt := kc_nle c_3
        refine lv_aload_n hx hb dX4_majorities_26 rfl (lv_at hl 2 rfl) ?_
        refine va_get (D := (dC, dI)) (ci := 4) (v := .ref t_) (C := RX4) (T := TX4) (N := 9) hx hb hts hi_4 hown hK hP 0 rfl rfl 2 (by decide) hf_28 (fun _ h9 => h9) rfl dX4_majorities_27 ?_
        obtain ⟨hPc, hDc, hFc, hCc⟩ := kx_pre (wc := [kx_1 t_ t_k t_o a_t a_m, kx_a t_o cyI 160 a_q]) hP hD hS hA [2, 1] (by decide) rfl
        have hKc := hK
        refine va_callv (va_runV (As := []) (rest := []) ⟨hx, hb, hml, hown, hts⟩ (kx_un (c_X1_clear l dC dI t_ t_k t_o cyI a_t a_m a_q H.size)) (cwV 0 hts gX4_majorities_X1_clear rfl rfl rfl (by decide +kernel) ⟨Nat.le_of_ble_eq_true rfl, Nat.le_of_ble_eq_true rfl⟩) ⟨fun a U g mk q => by obtain ⟨q0, q1, qP, qK, qD⟩ := q; exact ⟨q0, q1, qP, va_K.moved (u := U) (U := U.calling g mk a) (Vm.Alike.refl U.vm) qK, qD⟩, kx_rc1 hKc hPc (q0 := 0) rfl, fun U hU hW => ⟨rfl, by rw [hU], by rw [hU]; exact hPc, va_K.moved hW.alike hKc, hDc.weaken (fun _ _ _ _ => trivial)⟩⟩ rfl rfl hl.1 rfl (lv_room (Nat.le_of_ble_eq_true rfl)) dX4_majorities_30 ⟨Nat.le_of_ble_eq_true rfl, Nat.le_of_ble_eq_true rfl⟩) hS (fun q _ h => hFc q h) hFc (fun u t H1 locs ht hvm w_4 hB hz1 hk1 hS => ?_)
        obtain ⟨o_5, rfl⟩ : ∃ z, z = u := ⟨_, rfl⟩
        obtain ⟨hP1, hK1, hD1⟩ := hB
        rw [ht] at hP1
        have hK1 := va_K.moved hvm.symm hK1
        obtain ⟨hP, hD⟩ := kx_join (w2 := [kx_4 m_ q_row q_t t_ h0 k0 w_ z_ slots old, kx_a t_k cyI 160 o_2, kx_0 q_row q_cell len, kx_a q_cell cyI 160 f, kx_1 t_ t_k t_o 0 0, kx_a t_o cyI 160 o_5]) hP hD hP1 hD1 hk1 hFc [2, 1] [0, 3, 4, 5] hCc rfl (by decide) (by decide)
        clear hP1 hD1 hK1 hk1 hz1 hFc hDc hPc hKc hCc
        generalize H1 = H at hP hS ⊢
        have w_4 : ∀ k : Nat, k < 160 → o_5 k = 0 := w_4
        refine lv_iload_n hx hb dX4_majorities_33 rfl (lv_at hl 0 rfl) ?_
        refine lv_istore_n (lv' := [(3, .int i), (2, .int i), (1, .int many), (0, .ref m_)]) hx hb dX4_majorities_34 rfl hl (by decide) rfl (fun ls hl => ?_)
        have LP2 : ∀ (n : Nat) (j : Int32) (many2 : Int32) (b_t : Int32) (b_m : Int32) (b_q : Nat → Int32), (0 ≤ j.toInt) → (len.toInt - j.toInt).toNat < n → ∀ (H : Heap) (locs : List Loc), va_P (dC, dI) vwCl [kx_4 m_ q_row q_t t_ h0 k0 w_ z_ slots old, kx_a t_k cyI 160 o_2, kx_0 q_row q_cell len, kx_a q_cell cyI 160 f, kx_1 t_ t_k t_o b_t b_m, kx_a t_o cyI 160 b_q] H → va_D A [kx_4 m_ q_row q_t t_ h0 k0 w_ z_ slots old, kx_a t_k cyI 160 o_2, kx_0 q_row q_cell len, kx_a q_cell cyI 160 f, kx_1 t_ t_k t_o b_t b_m, kx_a t_o cyI 160 b_q] → va_S A s.heap H locs → ∀ (ls : Array Slot), lv_has ls 4 [(3, .int j), (2, .int i), (1, .int many2), (0, .ref m_)] → W p l e (headSpec wsX4_majorities ({ frames := 2, cells := 0, slots := 0, locals := 90 })).room s m ([.ref m_] : List Value).toArray below meth c H locs 0 0 (MQ below (va_Qi (fun (r : Int32) (u : Int32 × Int32 × (Nat → Int32) × (Nat → Int32)) => True) (fun (u : Int32 × Int32 × (Nat → Int32) × (Nat → Int32)) (t : State) => va_P (dC, dI) vwCl [kx_4 m_ q_row q_t t_ h0 k0 w_ z_ slots old, kx_0 q_row q_cell len, kx_a q_cell cyI 160 f, kx_1 t_ t_k t_o u.1 u.2.1, kx_a t_k cyI 160 u.2.2.1, kx_a t_o cyI 160 u.2.2.2] t.heap ∧ va_K (dC, dI) vwCl [(cyI, .int)] t ∧ va_D A [kx_4 m_ q_row q_t t_ h0 k0 w_ z_ slots old, kx_0 q_row q_cell len, kx_a q_cell cyI 160 f, kx_1 t_ t_k t_o u.1 u.2.1, kx_a t_k cyI 160 u.2.2.1, kx_a t_o cyI 160 u.2.2.2]) A) ([.ref m_] : List Value).toArray s 0 0 A) (F0 m 35 ls []) := by
          intro n
          induction n with
          | zero => intro j many2 b_t b_m b_q LP2_h0 hn; exact absurd hn (Nat.not_lt_zero _)
          | succ n ih2 =>
            intro j many2 b_t b_m b_q LP2_h0 hn2 H locs hP hD hS ls hl
            refine lv_iload_n hx hb dX4_majorities_35 rfl (lv_at hl 0 rfl) ?_
            refine lv_aload_n hx hb dX4_majorities_36 rfl (lv_at hl 3 rfl) ?_
            refine va_get (D := (dC, dI)) (ci := 4) (v := .ref q_row) (C := RX4) (T := TX4) (N := 9) hx hb hts hi_4 hown hK hP 0 rfl rfl 0 (by decide) hf_12 (fun _ h9 => h9) rfl dX4_majorities_37 ?_
            refine va_get (D := (dC, dI)) (ci := 0) (v := .int len) (C := RX0) (T := TX0) (N := 2) hx hb hts hi_0 hown hK hP 2 rfl rfl 1 (by decide) hf_57 (fun _ h9 => h9) rfl dX4_majorities_40 ?_
            refine lv_icmp_ge (tgt := 73) hx hb dX4_majorities_43 (by decide) (fun c_6 => ?_) (fun c_6 => ?_)
            · have i_6 : len.toInt ≤ j.toInt := kc_le c_6
              obtain ⟨x_7, ex_7⟩ : ∃ y : Int32, y = i + 1 := ⟨_, rfl⟩
              have i_7 : x_7.toInt = i.toInt + 1 := ki_add ex_7 rfl rfl (om_13 LP1_h0) (om_3 a1 i_3)
              refine lv_iinc (v := x_7) (lv' := [(2, .int x_7), (3, .int j), (1, .int many2), (0, .ref m_)]) hx hb dX4_majorities_73 hl (k := 1) rfl (by rw [ex_7]; rfl) (by decide) rfl (fun ls hl => ?_)
              refine lv_goto (tgt := 15) hx hb dX4_majorities_76 (by decide) ?_
              have hP : va_P (dC, dI) vwCl [kx_4 m_ q_row q_t t_ h0 k0 w_ z_ slots old, kx_a t_o cyI 160 b_q, kx_1 t_ t_k t_o b_t b_m, kx_a t_k cyI 160 o_2, kx_0 q_row q_cell len, kx_a q_cell cyI 160 f] _ := hP.sub [0, 5, 4, 1, 2, 3] rfl
              have hD : va_D A [kx_4 m_ q_row q_t t_ h0 k0 w_ z_ slots old, kx_a t_o cyI 160 b_q, kx_1 t_ t_k t_o b_t b_m, kx_a t_k cyI 160 o_2, kx_0 q_row q_cell len, kx_a q_cell cyI 160 f] := hD.sub [0, 5, 4, 1, 2, 3] (by decide) rfl
              exact ih1 x_7 many2 b_t b_m b_q (om_34 LP1_h0 i_7) (om_mu hn1 (om_5 i_7) (om_6 i_3)) _ _ hP hD hS ls (lv_sub hl [0, 2, 3] rfl)
            · have i_6 : j.toInt < len.toInt := kc_nle c_6
              refine lv_aload_n hx hb dX4_majorities_46 rfl (lv_at hl 3 rfl) ?_
              refine va_get (D := (dC, dI)) (ci := 4) (v := .ref t_) (C := RX4) (T := TX4) (N := 9) hx hb hts hi_4 hown hK hP 0 rfl rfl 2 (by decide) hf_28 (fun _ h9 => h9) rfl dX4_majorities_47 ?_
              refine lv_iload_n hx hb dX4_majorities_50 rfl (lv_at hl 0 rfl) ?_
              obtain ⟨hPc, hDc, hFc, hCc⟩ := kx_pre (wc := [kx_1 t_ t_k t_o b_t b_m, kx_a t_k cyI 160 o_2, kx_a t_o cyI 160 b_q]) hP hD hS hA [4, 1, 5] (by decide) rfl
              have hKc := hK
              refine va_callv (va_runV (As := [.int j]) (rest := []) ⟨hx, hb, hml, hown, hts⟩ (kx_un (c_X1_take l dC dI t_ t_k t_o cyI b_t b_m o_2 b_q len.toInt j H.size w_1 LP2_h0 i_6 a1)) (cwV 1 hts gX4_majorities_X1_take rfl rfl rfl (by decide +kernel) ⟨Nat.le_of_ble_eq_true rfl, Nat.le_of_ble_eq_true rfl⟩) ⟨fun a U g mk q => by obtain ⟨q0, q1, qP, qK, qD⟩ := q; exact ⟨q0, q1, qP, va_K.moved (u := U) (U := U.calling g mk a) (Vm.Alike.refl U.vm) qK, qD⟩, kx_rc1 hKc hPc (q0 := 0) rfl, fun U hU hW => ⟨rfl, by rw [hU], by rw [hU]; exact hPc, va_K.moved hW.alike hKc, hDc.weaken (fun _ _ _ _ => trivial)⟩⟩ rfl rfl hl.1 rfl (lv_room (Nat.le_of_ble_eq_true rfl)) dX4_majorities_51 ⟨Nat.le_of_ble_eq_true rfl, Nat.le_of_ble_eq_true rfl⟩) hS (fun q _ h => hFc q h) hFc (fun u t H1 locs ht hvm w_8 hB hz1 hk1 hS => ?_)
              obtain ⟨o_9, o_10, o_11⟩ := u
              dsimp only at w_8 hB
              obtain ⟨hP1, hK1, hD1⟩ := hB
              rw [ht] at hP1
              have hK1 := va_K.moved hvm.symm hK1
              obtain ⟨hP, hD⟩ := kx_join (w2 := [kx_4 m_ q_row q_t t_ h0 k0 w_ z_ slots old, kx_0 q_row q_cell len, kx_a q_cell cyI 160 f, kx_1 t_ t_k t_o o_9 o_10, kx_a t_k cyI 160 o_2, kx_a t_o cyI 160 o_11]) hP hD hP1 hD1 hk1 hFc [4, 1, 5] [0, 2, 3] hCc rfl (by decide) (by decide)
              clear hP1 hD1 hK1 hk1 hz1 hFc hDc hPc hKc hCc
              generalize H1 = H at hP hS ⊢
              have w_8 : True := w_8
              refine lv_aload_n hx hb dX4_majorities_54 rfl (lv_at hl 3 rfl) ?_
              refine va_get (D := (dC, dI)) (ci := 4) (v := .ref t_) (C := RX4) (T := TX4) (N := 9) hx hb hts hi_4 hown hK hP 0 rfl rfl 2 (by decide) hf_28 (fun _ h9 => h9) rfl dX4_majorities_55 ?_
              have hPc := hP.sub (ws' := [kx_1 t_ t_k t_o o_9 o_10]) [3] rfl
              have hKc := hK.sub (tys' := []) [] rfl
              refine vp_callSi (W.runV (As := []) (rest := []) ⟨hx, hb, hml, hown, hts⟩ (c_X1_hasMajority l dC dI t_ t_k t_o o_9 o_10) (cwV 0 hts gX4_majorities_X1_hasMajority rfl rfl rfl (by decide +kernel) ⟨Nat.le_of_ble_eq_true rfl, Nat.le_of_ble_eq_true rfl⟩) ⟨fun a U g mk q => by obtain ⟨q0, qP, qK⟩ := q; exact ⟨q0, qP, va_K.moved (u := U) (U := U.calling g mk a) (Vm.Alike.refl U.vm) qK⟩, kx_rc1 hKc hPc (q0 := 0) rfl, fun U hU hW => ⟨rfl, by rw [hU]; exact hPc, va_K.moved hW.alike hKc⟩⟩ rfl rfl hl.1 rfl (lv_room (Nat.le_of_ble_eq_true rfl)) dX4_majorities_58 ⟨Nat.le_of_ble_eq_true rfl, Nat.le_of_ble_eq_true rfl⟩) (fun r_12 w_12 => ?_)
              rcases w_12 with ⟨rfl, w_12⟩ | ⟨rfl, w_12⟩
              · have w_12 : (0 : Int) ≤ 1 := w_12
                refine lv_if_eq (tgt := 67) hx hb dX4_majorities_61 (by decide) (fun c_13 => ?_) (fun c_13 => ?_)
                · exact absurd c_13 (by decide)
                · obtain ⟨x_14, ex_14⟩ : ∃ y : Int32, y = many2 + 1 := ⟨_, rfl⟩
                  refine lv_iinc (v := x_14) (lv' := [(1, .int x_14), (3, .int j), (2, .int i), (0, .ref m_)]) hx hb dX4_majorities_64 hl (k := 2) rfl (by rw [ex_14]; rfl) (by decide) rfl (fun ls hl => ?_)
                  obtain ⟨x_15, ex_15⟩ : ∃ y : Int32, y = j + 1 := ⟨_, rfl⟩
                  have i_15 : x_15.toInt = j.toInt + 1 := ki_add ex_15 rfl rfl (om_13 LP2_h0) (om_3 a1 i_6)
                  refine lv_iinc (v := x_15) (lv' := [(3, .int x_15), (1, .int x_14), (2, .int i), (0, .ref m_)]) hx hb dX4_majorities_67 hl (k := 1) rfl (by rw [ex_15]; rfl) (by decide) rfl (fun ls hl => ?_)
                  refine lv_goto (tgt := 35) hx hb dX4_majorities_70 (by decide) ?_
                  have hP : va_P (dC, dI) vwCl [kx_4 m_ q_row q_t t_ h0 k0 w_ z_ slots old, kx_a t_k cyI 160 o_2, kx_0 q_row q_cell len, kx_a q_cell cyI 160 f, kx_1 t_ t_k t_o o_9 o_10, kx_a t_o cyI 160 o_11] _ := hP.sub [0, 4, 1, 2, 3, 5] rfl
                  have hD : va_D A [kx_4 m_ q_row q_t t_ h0 k0 w_ z_ slots old, kx_a t_k cyI 160 o_2, kx_0 q_row q_cell len, kx_a q_cell cyI 160 f, kx_1 t_ t_k t_o o_9 o_10, kx_a t_o cyI 160 o_11] := hD.sub [0, 4, 1, 2, 3, 5] (by decide) rfl
                  exact ih2 x_15 x_14 o_9 o_10 o_11 (om_34 LP2_h0 i_15) (om_mu hn2 (om_5 i_15) (om_6 i_6)) _ _ hP hD hS ls (lv_sub hl [0, 2, 1, 3] rfl)
              · have w_12 : (0 : Int) ≤ 1 := w_12
                refine lv_if_eq (tgt := 67) hx hb dX4_majorities_61 (by decide) (fun c_16 => ?_) (fun c_16 => ?_)
                · obtain ⟨x_17, ex_17⟩ : ∃ y : Int32, y = j + 1 := ⟨_, rfl⟩
                  have i_17 : x_17.toInt = j.toInt + 1 := ki_add ex_17 rfl rfl (om_13 LP2_h0) (om_3 a1 i_6)
                  refine lv_iinc (v := x_17) (lv' := [(3, .int x_17), (2, .int i), (1, .int many2), (0, .ref m_)]) hx hb dX4_majorities_67 hl (k := 0) rfl (by rw [ex_17]; rfl) (by decide) rfl (fun ls hl => ?_)
                  refine lv_goto (tgt := 35) hx hb dX4_majorities_70 (by decide) ?_
                  have hP : va_P (dC, dI) vwCl [kx_4 m_ q_row q_t t_ h0 k0 w_ z_ slots old, kx_a t_k cyI 160 o_2, kx_0 q_row q_cell len, kx_a q_cell cyI 160 f, kx_1 t_ t_k t_o o_9 o_10, kx_a t_o cyI 160 o_11] _ := hP.sub [0, 4, 1, 2, 3, 5] rfl
                  have hD : va_D A [kx_4 m_ q_row q_t t_ h0 k0 w_ z_ slots old, kx_a t_k cyI 160 o_2, kx_0 q_row q_cell len, kx_a q_cell cyI 160 f, kx_1 t_ t_k t_o o_9 o_10, kx_a t_o cyI 160 o_11] := hD.sub [0, 4, 1, 2, 3, 5] (by decide) rfl
                  exact ih2 x_17 many2 o_9 o_10 o_11 (om_34 LP2_h0 i_17) (om_mu hn2 (om_5 i_17) (om_6 i_6)) _ _ hP hD hS ls (lv_sub hl [0, 1, 2, 3] rfl)
                · exact absurd c_16 (by decide)
        have k_18 : (0 : Int32).toInt = 0 := rfl
        have k_19 : (0 : Int32).toInt = 0 := rfl
        exact LP2 ((len.toInt - i.toInt : Int).toNat + 1) i many 0 0 o_5 (om_10 LP1_h0) (Nat.lt_succ_self _) _ _ hP hD hS ls (lv_sub hl [0, 1, 2, 3] rfl)
  have k_20 : (0 : Int32).toInt = 0 := rfl
  have k_21 : (0 : Int32).toInt = 0 := rfl
  exact LP1 ((len.toInt - 0 : Int).toNat + 1) 0 0 tk mo fq om_35 (Nat.lt_succ_self _) _ _ hP hD hS ls (lv_sub hl [0, 1, 2] rfl)

set_option maxHeartbeats 4000000 in
set_option maxRecDepth 100000 in
theorem c_X4_reach (l : Launch) (dC : Nat → ClassId) (dI : Nat → Nat → Nat) (m_ : Nat) (q_row : Nat) (q_t : Nat) (t_ : Nat) (h0 : Nat) (k0 : Nat) (w_ : Nat) (z_ : Nat) (slots : Int32) (old : Int32) (q_cell : Nat) (cyI : ClassId) (len : Int32) (f : Nat → Int32) (t_k : Nat) (t_o : Nat) (tk : Int32) (mo : Int32) (fk : Nat → Int32) (fq : Nat → Int32) (p0 : Int32) (sz : Nat) (a0 : 0 ≤ len.toInt) (a1 : len.toInt ≤ 160) : kx_MQ l (dC, dI) yX4_reach wsX4_reach ({ frames := 2, cells := 0, slots := 0, locals := 90 }) [.ref m_, .int p0] [kx_4 m_ q_row q_t t_ h0 k0 w_ z_ slots old, kx_0 q_row q_cell len, kx_a q_cell cyI 160 f, kx_1 t_ t_k t_o tk mo, kx_a t_k cyI 160 fk, kx_a t_o cyI 160 fq] [(cyI, .int)] sz (fun A => va_Qi (fun (r : Int32) (u : Int32 × Int32 × (Nat → Int32) × (Nat → Int32)) => True) (fun (u : Int32 × Int32 × (Nat → Int32) × (Nat → Int32)) (t : State) => va_P (dC, dI) vwCl [kx_4 m_ q_row q_t t_ h0 k0 w_ z_ slots old, kx_0 q_row q_cell len, kx_a q_cell cyI 160 f, kx_1 t_ t_k t_o u.1 u.2.1, kx_a t_k cyI 160 u.2.2.1, kx_a t_o cyI 160 u.2.2.2] t.heap ∧ va_K (dC, dI) vwCl [(cyI, .int)] t ∧ va_D A [kx_4 m_ q_row q_t t_ h0 k0 w_ z_ slots old, kx_0 q_row q_cell len, kx_a q_cell cyI 160 f, kx_1 t_ t_k t_o u.1 u.2.1, kx_a t_k cyI 160 u.2.2.1, kx_a t_o cyI 160 u.2.2.2]) A) := by
  refine kx_stQ (ws := wsX4_reach) (cc := cX4_reach) (maxL := 4) (ret := (some .int)) (by decide) rfl (Nat.le_of_ble_eq_true rfl) ?_
  intro p e s m below meth c A ls hx hb hr hlocks hts hown hml hA hS hP hK hD hl
  have hown : s.vm.findClass RX4 = some m.cls := hown
  have hl : lv_has ls 4 [(0, .ref m_), (1, .int p0)] := hl
  have hf_12 := hts (.fieldLink RX4 12 "MajorityIndex" "row" "LMajorityIndex$Row;") (List.mem_of_getElem? (i := 1) rfl)
  have hi_4 : ∀ w ∈ u_ws RX4 TX4 9, w ∈ wsX4_reach := fun w h => List.mem_cons_of_mem _ (List.mem_append_left _ (List.mem_append_left _ (List.mem_append_right _ h)))
  have hf_28 := hts (.fieldLink RX4 28 "MajorityIndex" "tally" "LMajorityIndex$Tally;") (List.mem_of_getElem? (i := 2) rfl)
  have hf_57 := hts (.fieldLink RX4 57 "MajorityIndex$Row" "length" "I") (List.mem_of_getElem? (i := 3) rfl)
  have hi_0 : ∀ w ∈ u_ws RX0 TX0 2, w ∈ wsX4_reach := fun w h => List.mem_cons_of_mem _ (List.mem_append_left _ (List.mem_append_right _ h))
  refine lv_aload_n hx hb dX4_reach_0 rfl (lv_at hl 0 rfl) ?_
  refine va_get (D := (dC, dI)) (ci := 4) (v := .ref q_row) (C := RX4) (T := TX4) (N := 9) hx hb hts hi_4 hown hK hP 0 rfl rfl 0 (by decide) hf_12 (fun _ h9 => h9) rfl dX4_reach_1 ?_
  refine lv_iload_n hx hb dX4_reach_4 rfl (lv_at hl 1 rfl) ?_
  have hPc := hP.sub (ws' := [kx_0 q_row q_cell len]) [1] rfl
  have hKc := hK.sub (tys' := []) [] rfl
  refine vp_callSi (W.runV (As := [.int p0]) (rest := []) ⟨hx, hb, hml, hown, hts⟩ (c_X0_hasPlace l dC dI q_row q_cell len p0) (cwV 1 hts gX4_reach_X0_hasPlace rfl rfl rfl (by decide +kernel) ⟨Nat.le_of_ble_eq_true rfl, Nat.le_of_ble_eq_true rfl⟩) ⟨fun a U g mk q => by obtain ⟨q0, qP, qK⟩ := q; exact ⟨q0, qP, va_K.moved (u := U) (U := U.calling g mk a) (Vm.Alike.refl U.vm) qK⟩, kx_rc0 hKc hPc (q0 := 0) rfl, fun U hU hW => ⟨rfl, by rw [hU]; exact hPc, va_K.moved hW.alike hKc⟩⟩ rfl rfl hl.1 rfl (lv_room (Nat.le_of_ble_eq_true rfl)) dX4_reach_5 ⟨Nat.le_of_ble_eq_true rfl, Nat.le_of_ble_eq_true rfl⟩) (fun r_1 w_1 => ?_)
  rcases w_1 with ⟨rfl, w_1⟩ | ⟨rfl, w_1⟩
  · have w_1 : (0 ≤ p0.toInt ∧ p0.toInt < len.toInt) := w_1
    refine lv_if_ne (tgt := 13) hx hb dX4_reach_8 (by decide) (fun c_2 => ?_) (fun c_2 => ?_)
    · refine lv_aload_n hx hb dX4_reach_13 rfl (lv_at hl 0 rfl) ?_
      refine va_get (D := (dC, dI)) (ci := 4) (v := .ref t_) (C := RX4) (T := TX4) (N := 9) hx hb hts hi_4 hown hK hP 0 rfl rfl 2 (by decide) hf_28 (fun _ h9 => h9) rfl dX4_reach_14 ?_
      refine lv_aload_n hx hb dX4_reach_17 rfl (lv_at hl 0 rfl) ?_
      refine va_get (D := (dC, dI)) (ci := 4) (v := .ref q_row) (C := RX4) (T := TX4) (N := 9) hx hb hts hi_4 hown hK hP 0 rfl rfl 0 (by decide) hf_12 (fun _ h9 => h9) rfl dX4_reach_18 ?_
      obtain ⟨hPc, hDc, hFc, hCc⟩ := kx_pre (wc := [kx_1 t_ t_k t_o tk mo, kx_a t_k cyI 160 fk, kx_0 q_row q_cell len, kx_a q_cell cyI 160 f]) hP hD hS hA [3, 4, 1, 2] (by decide) rfl
      have hKc := hK
      refine va_callv (va_runV (As := [.ref q_row]) (rest := []) ⟨hx, hb, hml, hown, hts⟩ (kx_un (c_X1_learn l dC dI t_ t_k t_o cyI tk mo fk q_row q_cell len f s.heap.size a0 a1)) (cwV 1 hts gX4_reach_X1_learn rfl rfl rfl (by decide +kernel) ⟨Nat.le_of_ble_eq_true rfl, Nat.le_of_ble_eq_true rfl⟩) ⟨fun a U g mk q => by obtain ⟨q0, q1, qP, qK, qD⟩ := q; exact ⟨q0, q1, qP, va_K.moved (u := U) (U := U.calling g mk a) (Vm.Alike.refl U.vm) qK, qD⟩, kx_rc1 hKc hPc (q0 := 0) rfl, fun U hU hW => ⟨rfl, by rw [hU], by rw [hU]; exact hPc, va_K.moved hW.alike hKc, hDc.weaken (fun _ _ _ _ => trivial)⟩⟩ rfl rfl hl.1 rfl (lv_room (Nat.le_of_ble_eq_true rfl)) dX4_reach_21 ⟨Nat.le_of_ble_eq_true rfl, Nat.le_of_ble_eq_true rfl⟩) hS (fun q _ h => hFc q h) hFc (fun u t H1 locs ht hvm w_3 hB hz1 hk1 hS => ?_)
      obtain ⟨o_4, rfl⟩ : ∃ z, z = u := ⟨_, rfl⟩
      obtain ⟨hP1, hK1, hD1⟩ := hB
      rw [ht] at hP1
      have hK1 := va_K.moved hvm.symm hK1
      obtain ⟨hP, hD⟩ := kx_join (w2 := [kx_4 m_ q_row q_t t_ h0 k0 w_ z_ slots old, kx_a t_o cyI 160 fq, kx_1 t_ t_k t_o tk mo, kx_a t_k cyI 160 o_4, kx_0 q_row q_cell len, kx_a q_cell cyI 160 f]) hP hD hP1 hD1 hk1 hFc [3, 4, 1, 2] [0, 5] hCc rfl (by decide) (by decide)
      clear hP1 hD1 hK1 hk1 hz1 hFc hDc hPc hKc hCc
      generalize H1 = H at hP hS ⊢
      have w_3 : kindOk o_4 len.toInt := w_3
      refine lv_aload_n hx hb dX4_reach_24 rfl (lv_at hl 0 rfl) ?_
      refine va_get (D := (dC, dI)) (ci := 4) (v := .ref t_) (C := RX4) (T := TX4) (N := 9) hx hb hts hi_4 hown hK hP 0 rfl rfl 2 (by decide) hf_28 (fun _ h9 => h9) rfl dX4_reach_25 ?_
      obtain ⟨hPc, hDc, hFc, hCc⟩ := kx_pre (wc := [kx_1 t_ t_k t_o tk mo, kx_a t_o cyI 160 fq]) hP hD hS hA [2, 1] (by decide) rfl
      have hKc := hK
      refine va_callv (va_runV (As := []) (rest := []) ⟨hx, hb, hml, hown, hts⟩ (kx_un (c_X1_clear l dC dI t_ t_k t_o cyI tk mo fq H.size)) (cwV 0 hts gX4_reach_X1_clear rfl rfl rfl (by decide +kernel) ⟨Nat.le_of_ble_eq_true rfl, Nat.le_of_ble_eq_true rfl⟩) ⟨fun a U g mk q => by obtain ⟨q0, q1, qP, qK, qD⟩ := q; exact ⟨q0, q1, qP, va_K.moved (u := U) (U := U.calling g mk a) (Vm.Alike.refl U.vm) qK, qD⟩, kx_rc1 hKc hPc (q0 := 0) rfl, fun U hU hW => ⟨rfl, by rw [hU], by rw [hU]; exact hPc, va_K.moved hW.alike hKc, hDc.weaken (fun _ _ _ _ => trivial)⟩⟩ rfl rfl hl.1 rfl (lv_room (Nat.le_of_ble_eq_true rfl)) dX4_reach_28 ⟨Nat.le_of_ble_eq_true rfl, Nat.le_of_ble_eq_true rfl⟩) hS (fun q _ h => hFc q h) hFc (fun u t H1 locs ht hvm w_5 hB hz1 hk1 hS => ?_)
      obtain ⟨o_6, rfl⟩ : ∃ z, z = u := ⟨_, rfl⟩
      obtain ⟨hP1, hK1, hD1⟩ := hB
      rw [ht] at hP1
      have hK1 := va_K.moved hvm.symm hK1
      obtain ⟨hP, hD⟩ := kx_join (w2 := [kx_4 m_ q_row q_t t_ h0 k0 w_ z_ slots old, kx_a t_k cyI 160 o_4, kx_0 q_row q_cell len, kx_a q_cell cyI 160 f, kx_1 t_ t_k t_o 0 0, kx_a t_o cyI 160 o_6]) hP hD hP1 hD1 hk1 hFc [2, 1] [0, 3, 4, 5] hCc rfl (by decide) (by decide)
      clear hP1 hD1 hK1 hk1 hz1 hFc hDc hPc hKc hCc
      generalize H1 = H at hP hS ⊢
      have w_5 : ∀ k : Nat, k < 160 → o_6 k = 0 := w_5
      refine lv_iconst (v := (-1)) hx hb dX4_reach_31 (by decide) ?_
      refine lv_istore_n (lv' := [(2, .int (-1)), (0, .ref m_), (1, .int p0)]) hx hb dX4_reach_32 rfl hl (by decide) rfl (fun ls hl => ?_)
      refine lv_iload_n hx hb dX4_reach_33 rfl (lv_at hl 2 rfl) ?_
      refine lv_istore_n (lv' := [(3, .int p0), (2, .int (-1)), (0, .ref m_), (1, .int p0)]) hx hb dX4_reach_34 rfl hl (by decide) rfl (fun ls hl => ?_)
      have LP1 : ∀ (n : Nat) (i : Int32) (far : Int32) (a_t : Int32) (a_m : Int32) (a_q : Nat → Int32), (0 ≤ i.toInt) → (len.toInt - i.toInt).toNat < n → ∀ (H : Heap) (locs : List Loc), va_P (dC, dI) vwCl [kx_4 m_ q_row q_t t_ h0 k0 w_ z_ slots old, kx_a t_k cyI 160 o_4, kx_0 q_row q_cell len, kx_a q_cell cyI 160 f, kx_1 t_ t_k t_o a_t a_m, kx_a t_o cyI 160 a_q] H → va_D A [kx_4 m_ q_row q_t t_ h0 k0 w_ z_ slots old, kx_a t_k cyI 160 o_4, kx_0 q_row q_cell len, kx_a q_cell cyI 160 f, kx_1 t_ t_k t_o a_t a_m, kx_a t_o cyI 160 a_q] → va_S A s.heap H locs → ∀ (ls : Array Slot), lv_has ls 4 [(3, .int i), (2, .int far), (0, .ref m_), (1, .int p0)] → W p l e (headSpec wsX4_reach ({ frames := 2, cells := 0, slots := 0, locals := 90 })).room s m ([.ref m_, .int p0] : List Value).toArray below meth c H locs 0 0 (MQ below (va_Qi (fun (r : Int32) (u : Int32 × Int32 × (Nat → Int32) × (Nat → Int32)) => True) (fun (u : Int32 × Int32 × (Nat → Int32) × (Nat → Int32)) (t : State) => va_P (dC, dI) vwCl [kx_4 m_ q_row q_t t_ h0 k0 w_ z_ slots old, kx_0 q_row q_cell len, kx_a q_cell cyI 160 f, kx_1 t_ t_k t_o u.1 u.2.1, kx_a t_k cyI 160 u.2.2.1, kx_a t_o cyI 160 u.2.2.2] t.heap ∧ va_K (dC, dI) vwCl [(cyI, .int)] t ∧ va_D A [kx_4 m_ q_row q_t t_ h0 k0 w_ z_ slots old, kx_0 q_row q_cell len, kx_a q_cell cyI 160 f, kx_1 t_ t_k t_o u.1 u.2.1, kx_a t_k cyI 160 u.2.2.1, kx_a t_o cyI 160 u.2.2.2]) A) ([.ref m_, .int p0] : List Value).toArray s 0 0 A) (F0 m 35 ls []) := by
        intro n
        induction n with
        | zero => intro i far a_t a_m a_q LP1_h0 hn; exact absurd hn (Nat.not_lt_zero _)
        | succ n ih1 =>
          intro i far a_t a_m a_q LP1_h0 hn1 H locs hP hD hS ls hl
          refine lv_iload_n hx hb dX4_reach_35 rfl (lv_at hl 0 rfl) ?_
          refine lv_aload_n hx hb dX4_reach_36 rfl (lv_at hl 2 rfl) ?_
          refine va_get (D := (dC, dI)) (ci := 4) (v := .ref q_row) (C := RX4) (T := TX4) (N := 9) hx hb hts hi_4 hown hK hP 0 rfl rfl 0 (by decide) hf_12 (fun _ h9 => h9) rfl dX4_reach_37 ?_
          refine va_get (D := (dC, dI)) (ci := 0) (v := .int len) (C := RX0) (T := TX0) (N := 2) hx hb hts hi_0 hown hK hP 2 rfl rfl 1 (by decide) hf_57 (fun _ h9 => h9) rfl dX4_reach_40 ?_
          refine lv_icmp_ge (tgt := 74) hx hb dX4_reach_43 (by decide) (fun c_7 => ?_) (fun c_7 => ?_)
          · have i_7 : len.toInt ≤ i.toInt := kc_le c_7
            refine lv_iload_n hx hb dX4_reach_74 rfl (lv_at hl 1 rfl) ?_
            obtain ⟨hP9, hD9⟩ := kx_sub (w2 := [kx_4 m_ q_row q_t t_ h0 k0 w_ z_ slots old, kx_0 q_row q_cell len, kx_a q_cell cyI 160 f, kx_1 t_ t_k t_o a_t a_m, kx_a t_k cyI 160 o_4, kx_a t_o cyI 160 a_q]) hP hD [0, 2, 3, 4, 1, 5] (by decide) rfl
            have hK9 := hK
            exact W.iret (v := far) hx hb hr (hlocks := hlocks) (fun t ht hW => ⟨⟨far, (a_t, a_m, o_4, a_q), rfl, trivial, by rw [ht]; exact hP9, va_K.moved hW.alike hK9, hD9⟩, hS.F ht⟩) hS.2.2 dX4_reach_75
          · have i_7 : i.toInt < len.toInt := kc_nle c_7
            refine lv_aload_n hx hb dX4_reach_46 rfl (lv_at hl 2 rfl) ?_
            refine va_get (D := (dC, dI)) (ci := 4) (v := .ref t_) (C := RX4) (T := TX4) (N := 9) hx hb hts hi_4 hown hK hP 0 rfl rfl 2 (by decide) hf_28 (fun _ h9 => h9) rfl dX4_reach_47 ?_
            refine lv_iload_n hx hb dX4_reach_50 rfl (lv_at hl 0 rfl) ?_
            obtain ⟨hPc, hDc, hFc, hCc⟩ := kx_pre (wc := [kx_1 t_ t_k t_o a_t a_m, kx_a t_k cyI 160 o_4, kx_a t_o cyI 160 a_q]) hP hD hS hA [4, 1, 5] (by decide) rfl
            have hKc := hK
            refine va_callv (va_runV (As := [.int i]) (rest := []) ⟨hx, hb, hml, hown, hts⟩ (kx_un (c_X1_take l dC dI t_ t_k t_o cyI a_t a_m o_4 a_q len.toInt i H.size w_3 LP1_h0 i_7 a1)) (cwV 1 hts gX4_reach_X1_take rfl rfl rfl (by decide +kernel) ⟨Nat.le_of_ble_eq_true rfl, Nat.le_of_ble_eq_true rfl⟩) ⟨fun a U g mk q => by obtain ⟨q0, q1, qP, qK, qD⟩ := q; exact ⟨q0, q1, qP, va_K.moved (u := U) (U := U.calling g mk a) (Vm.Alike.refl U.vm) qK, qD⟩, kx_rc1 hKc hPc (q0 := 0) rfl, fun U hU hW => ⟨rfl, by rw [hU], by rw [hU]; exact hPc, va_K.moved hW.alike hKc, hDc.weaken (fun _ _ _ _ => trivial)⟩⟩ rfl rfl hl.1 rfl (lv_room (Nat.le_of_ble_eq_true rfl)) dX4_reach_51 ⟨Nat.le_of_ble_eq_true rfl, Nat.le_of_ble_eq_true rfl⟩) hS (fun q _ h => hFc q h) hFc (fun u t H1 locs ht hvm w_8 hB hz1 hk1 hS => ?_)
            obtain ⟨o_9, o_10, o_11⟩ := u
            dsimp only at w_8 hB
            obtain ⟨hP1, hK1, hD1⟩ := hB
            rw [ht] at hP1
            have hK1 := va_K.moved hvm.symm hK1
            obtain ⟨hP, hD⟩ := kx_join (w2 := [kx_4 m_ q_row q_t t_ h0 k0 w_ z_ slots old, kx_0 q_row q_cell len, kx_a q_cell cyI 160 f, kx_1 t_ t_k t_o o_9 o_10, kx_a t_k cyI 160 o_4, kx_a t_o cyI 160 o_11]) hP hD hP1 hD1 hk1 hFc [4, 1, 5] [0, 2, 3] hCc rfl (by decide) (by decide)
            clear hP1 hD1 hK1 hk1 hz1 hFc hDc hPc hKc hCc
            generalize H1 = H at hP hS ⊢
            have w_8 : True := w_8
            refine lv_aload_n hx hb dX4_reach_54 rfl (lv_at hl 2 rfl) ?_
            refine va_get (D := (dC, dI)) (ci := 4) (v := .ref t_) (C := RX4) (T := TX4) (N := 9) hx hb hts hi_4 hown hK hP 0 rfl rfl 2 (by decide) hf_28 (fun _ h9 => h9) rfl dX4_reach_55 ?_
            have hPc := hP.sub (ws' := [kx_1 t_ t_k t_o o_9 o_10]) [3] rfl
            have hKc := hK.sub (tys' := []) [] rfl
            refine vp_callSi (W.runV (As := []) (rest := []) ⟨hx, hb, hml, hown, hts⟩ (c_X1_hasMajority l dC dI t_ t_k t_o o_9 o_10) (cwV 0 hts gX4_reach_X1_hasMajority rfl rfl rfl (by decide +kernel) ⟨Nat.le_of_ble_eq_true rfl, Nat.le_of_ble_eq_true rfl⟩) ⟨fun a U g mk q => by obtain ⟨q0, qP, qK⟩ := q; exact ⟨q0, qP, va_K.moved (u := U) (U := U.calling g mk a) (Vm.Alike.refl U.vm) qK⟩, kx_rc1 hKc hPc (q0 := 0) rfl, fun U hU hW => ⟨rfl, by rw [hU]; exact hPc, va_K.moved hW.alike hKc⟩⟩ rfl rfl hl.1 rfl (lv_room (Nat.le_of_ble_eq_true rfl)) dX4_reach_58 ⟨Nat.le_of_ble_eq_true rfl, Nat.le_of_ble_eq_true rfl⟩) (fun r_12 w_12 => ?_)
            rcases w_12 with ⟨rfl, w_12⟩ | ⟨rfl, w_12⟩
            · have w_12 : (0 : Int) ≤ 1 := w_12
              refine lv_if_eq (tgt := 68) hx hb dX4_reach_61 (by decide) (fun c_13 => ?_) (fun c_13 => ?_)
              · exact absurd c_13 (by decide)
              · refine lv_iload_n hx hb dX4_reach_64 rfl (lv_at hl 0 rfl) ?_
                refine lv_iconst (v := 1) hx hb dX4_reach_65 (by decide) ?_
                refine lv_iadd hx hb dX4_reach_66 ?_
                refine lv_topi (fun y_14 ey_14 => ?_)
                have i_14 : y_14.toInt = i.toInt + 1 := ki_add ey_14 rfl rfl (om_13 LP1_h0) (om_3 a1 i_7)
                refine lv_istore_n (lv' := [(2, .int y_14), (3, .int i), (0, .ref m_), (1, .int p0)]) hx hb dX4_reach_67 rfl hl (by decide) rfl (fun ls hl => ?_)
                obtain ⟨x_15, ex_15⟩ : ∃ y : Int32, y = i + 1 := ⟨_, rfl⟩
                have i_15 : x_15.toInt = i.toInt + 1 := ki_add ex_15 rfl rfl (om_13 LP1_h0) (om_3 a1 i_7)
                refine lv_iinc (v := x_15) (lv' := [(3, .int x_15), (2, .int y_14), (0, .ref m_), (1, .int p0)]) hx hb dX4_reach_68 hl (k := 1) rfl (by rw [ex_15]; rfl) (by decide) rfl (fun ls hl => ?_)
                refine lv_goto (tgt := 35) hx hb dX4_reach_71 (by decide) ?_
                have hP : va_P (dC, dI) vwCl [kx_4 m_ q_row q_t t_ h0 k0 w_ z_ slots old, kx_a t_k cyI 160 o_4, kx_0 q_row q_cell len, kx_a q_cell cyI 160 f, kx_1 t_ t_k t_o o_9 o_10, kx_a t_o cyI 160 o_11] _ := hP.sub [0, 4, 1, 2, 3, 5] rfl
                have hD : va_D A [kx_4 m_ q_row q_t t_ h0 k0 w_ z_ slots old, kx_a t_k cyI 160 o_4, kx_0 q_row q_cell len, kx_a q_cell cyI 160 f, kx_1 t_ t_k t_o o_9 o_10, kx_a t_o cyI 160 o_11] := hD.sub [0, 4, 1, 2, 3, 5] (by decide) rfl
                exact ih1 x_15 y_14 o_9 o_10 o_11 (om_34 LP1_h0 i_15) (om_mu hn1 (om_5 i_15) (om_6 i_7)) _ _ hP hD hS ls (lv_sub hl [0, 1, 2, 3] rfl)
            · have w_12 : (0 : Int) ≤ 1 := w_12
              refine lv_if_eq (tgt := 68) hx hb dX4_reach_61 (by decide) (fun c_16 => ?_) (fun c_16 => ?_)
              · obtain ⟨x_17, ex_17⟩ : ∃ y : Int32, y = i + 1 := ⟨_, rfl⟩
                have i_17 : x_17.toInt = i.toInt + 1 := ki_add ex_17 rfl rfl (om_13 LP1_h0) (om_3 a1 i_7)
                refine lv_iinc (v := x_17) (lv' := [(3, .int x_17), (2, .int far), (0, .ref m_), (1, .int p0)]) hx hb dX4_reach_68 hl (k := 0) rfl (by rw [ex_17]; rfl) (by decide) rfl (fun ls hl => ?_)
                refine lv_goto (tgt := 35) hx hb dX4_reach_71 (by decide) ?_
                have hP : va_P (dC, dI) vwCl [kx_4 m_ q_row q_t t_ h0 k0 w_ z_ slots old, kx_a t_k cyI 160 o_4, kx_0 q_row q_cell len, kx_a q_cell cyI 160 f, kx_1 t_ t_k t_o o_9 o_10, kx_a t_o cyI 160 o_11] _ := hP.sub [0, 4, 1, 2, 3, 5] rfl
                have hD : va_D A [kx_4 m_ q_row q_t t_ h0 k0 w_ z_ slots old, kx_a t_k cyI 160 o_4, kx_0 q_row q_cell len, kx_a q_cell cyI 160 f, kx_1 t_ t_k t_o o_9 o_10, kx_a t_o cyI 160 o_11] := hD.sub [0, 4, 1, 2, 3, 5] (by decide) rfl
                exact ih1 x_17 far o_9 o_10 o_11 (om_34 LP1_h0 i_17) (om_mu hn1 (om_5 i_17) (om_6 i_7)) _ _ hP hD hS ls (lv_sub hl [0, 1, 2, 3] rfl)
              · exact absurd c_16 (by decide)
      have k_18 : ((-1) : Int32).toInt = -1 := rfl
      have k_19 : (0 : Int32).toInt = 0 := rfl
      have k_20 : (0 : Int32).toInt = 0 := rfl
      exact LP1 ((len.toInt - p0.toInt : Int).toNat + 1) p0 (-1) 0 0 o_6 (om_10 w_1.1) (Nat.lt_succ_self _) _ _ hP hD hS ls (lv_sub hl [0, 1, 2, 3] rfl)
    · exact absurd c_2 (by decide)
  · have w_1 : (p0.toInt < 0 ∨ len.toInt ≤ p0.toInt) := w_1
    refine lv_if_ne (tgt := 13) hx hb dX4_reach_8 (by decide) (fun c_21 => ?_) (fun c_21 => ?_)
    · exact absurd c_21 (by decide)
    · refine lv_iconst (v := (-1)) hx hb dX4_reach_11 (by decide) ?_
      have hP9 := hP
      have hD9 := hD
      have hK9 := hK
      exact W.iret (v := (-1)) hx hb hr (hlocks := hlocks) (fun t ht hW => ⟨⟨(-1), (tk, mo, fk, fq), rfl, trivial, by rw [ht]; exact hP9, va_K.moved hW.alike hK9, hD9⟩, hS.F ht⟩) hS.2.2 dX4_reach_12

set_option maxHeartbeats 4000000 in
set_option maxRecDepth 100000 in
theorem c_X4_parted (l : Launch) (dC : Nat → ClassId) (dI : Nat → Nat → Nat) (m_ : Nat) (q_row : Nat) (q_t : Nat) (t_ : Nat) (h0 : Nat) (k0 : Nat) (w_ : Nat) (z_ : Nat) (slots : Int32) (old : Int32) (q_cell : Nat) (cyI : ClassId) (len : Int32) (f : Nat → Int32) (t_k : Nat) (t_o : Nat) (tk : Int32) (mo : Int32) (fk : Nat → Int32) (fq : Nat → Int32) (fz : Nat → Int32) (p0 : Int32) (p1 : Int32) (sz : Nat) (a0 : 0 ≤ len.toInt) (a1 : len.toInt ≤ 160) : kx_MQ l (dC, dI) yX4_parted wsX4_parted ({ frames := 2, cells := 0, slots := 0, locals := 90 }) [.ref m_, .int p0, .int p1] [kx_4 m_ q_row q_t t_ h0 k0 w_ z_ slots old, kx_0 q_row q_cell len, kx_a q_cell cyI 160 f, kx_1 t_ t_k t_o tk mo, kx_a t_k cyI 160 fk, kx_a t_o cyI 160 fq, kx_a z_ cyI 161 fz] [(cyI, .int)] sz (fun A => va_Qi (fun (r : Int32) (u : Int32 × Int32 × (Nat → Int32) × (Nat → Int32) × (Nat → Int32)) => True) (fun (u : Int32 × Int32 × (Nat → Int32) × (Nat → Int32) × (Nat → Int32)) (t : State) => va_P (dC, dI) vwCl [kx_4 m_ q_row q_t t_ h0 k0 w_ z_ slots old, kx_0 q_row q_cell len, kx_a q_cell cyI 160 f, kx_1 t_ t_k t_o u.1 u.2.1, kx_a t_k cyI 160 u.2.2.1, kx_a t_o cyI 160 u.2.2.2.1, kx_a z_ cyI 161 u.2.2.2.2] t.heap ∧ va_K (dC, dI) vwCl [(cyI, .int)] t ∧ va_D A [kx_4 m_ q_row q_t t_ h0 k0 w_ z_ slots old, kx_0 q_row q_cell len, kx_a q_cell cyI 160 f, kx_1 t_ t_k t_o u.1 u.2.1, kx_a t_k cyI 160 u.2.2.1, kx_a t_o cyI 160 u.2.2.2.1, kx_a z_ cyI 161 u.2.2.2.2]) A) := by
  refine kx_stQ (ws := wsX4_parted) (cc := cX4_parted) (maxL := 5) (ret := (some .int)) (by decide) rfl (Nat.le_of_ble_eq_true rfl) ?_
  intro p e s m below meth c A ls hx hb hr hlocks hts hown hml hA hS hP hK hD hl
  have hown : s.vm.findClass RX4 = some m.cls := hown
  have hl : lv_has ls 5 [(0, .ref m_), (1, .int p0), (2, .int p1)] := hl
  have hf_12 := hts (.fieldLink RX4 12 "MajorityIndex" "row" "LMajorityIndex$Row;") (List.mem_of_getElem? (i := 1) rfl)
  have hi_4 : ∀ w ∈ u_ws RX4 TX4 9, w ∈ wsX4_parted := fun w h => List.mem_cons_of_mem _ (List.mem_append_left _ (List.mem_append_left _ (List.mem_append_right _ h)))
  have hf_28 := hts (.fieldLink RX4 28 "MajorityIndex" "tally" "LMajorityIndex$Tally;") (List.mem_of_getElem? (i := 2) rfl)
  have hf_46 := hts (.fieldLink RX4 46 "MajorityIndex" "fewest" "[I") (List.mem_of_getElem? (i := 3) rfl)
  have hm_91 := hts (.methodLink RX4 91 Lib.Math.min.name) (List.mem_of_getElem? (i := 4) rfl)
  have hms_min := hts (.static Lib.Math.min.name) (List.mem_of_getElem? (i := 5) rfl)
  have hz_math := hts (.initialized "java/lang/Math") (List.mem_of_getElem? (i := 6) rfl)
  have hmc_min := hts (.code Lib.Math.min.name Lib.Math.min.code 2 (some .int)) (List.mem_of_getElem? (i := 7) rfl)
  refine lv_aload_n hx hb dX4_parted_0 rfl (lv_at hl 0 rfl) ?_
  refine va_get (D := (dC, dI)) (ci := 4) (v := .ref q_row) (C := RX4) (T := TX4) (N := 9) hx hb hts hi_4 hown hK hP 0 rfl rfl 0 (by decide) hf_12 (fun _ h9 => h9) rfl dX4_parted_1 ?_
  refine lv_iload_n hx hb dX4_parted_4 rfl (lv_at hl 1 rfl) ?_
  refine lv_iload_n hx hb dX4_parted_5 rfl (lv_at hl 2 rfl) ?_
  have hPc := hP.sub (ws' := [kx_0 q_row q_cell len]) [1] rfl
  have hKc := hK.sub (tys' := []) [] rfl
  refine vp_callSi (W.runV (As := [.int p0, .int p1]) (rest := []) ⟨hx, hb, hml, hown, hts⟩ (c_X0_hasRange l dC dI q_row q_cell len p0 p1) (cwV 2 hts gX4_parted_X0_hasRange rfl rfl rfl (by decide +kernel) ⟨Nat.le_of_ble_eq_true rfl, Nat.le_of_ble_eq_true rfl⟩) ⟨fun a U g mk q => by obtain ⟨q0, qP, qK⟩ := q; exact ⟨q0, qP, va_K.moved (u := U) (U := U.calling g mk a) (Vm.Alike.refl U.vm) qK⟩, kx_rc0 hKc hPc (q0 := 0) rfl, fun U hU hW => ⟨rfl, by rw [hU]; exact hPc, va_K.moved hW.alike hKc⟩⟩ rfl rfl hl.1 rfl (lv_room (Nat.le_of_ble_eq_true rfl)) dX4_parted_6 ⟨Nat.le_of_ble_eq_true rfl, Nat.le_of_ble_eq_true rfl⟩) (fun r_1 w_1 => ?_)
  rcases w_1 with ⟨rfl, w_1⟩ | ⟨rfl, w_1⟩
  · have w_1 : (0 ≤ p0.toInt ∧ p0.toInt < p1.toInt ∧ p1.toInt ≤ len.toInt) := w_1
    refine lv_if_ne (tgt := 14) hx hb dX4_parted_9 (by decide) (fun c_2 => ?_) (fun c_2 => ?_)
    · refine lv_aload_n hx hb dX4_parted_14 rfl (lv_at hl 0 rfl) ?_
      refine va_get (D := (dC, dI)) (ci := 4) (v := .ref t_) (C := RX4) (T := TX4) (N := 9) hx hb hts hi_4 hown hK hP 0 rfl rfl 2 (by decide) hf_28 (fun _ h9 => h9) rfl dX4_parted_15 ?_
      refine lv_aload_n hx hb dX4_parted_18 rfl (lv_at hl 0 rfl) ?_
      refine va_get (D := (dC, dI)) (ci := 4) (v := .ref q_row) (C := RX4) (T := TX4) (N := 9) hx hb hts hi_4 hown hK hP 0 rfl rfl 0 (by decide) hf_12 (fun _ h9 => h9) rfl dX4_parted_19 ?_
      obtain ⟨hPc, hDc, hFc, hCc⟩ := kx_pre (wc := [kx_1 t_ t_k t_o tk mo, kx_a t_k cyI 160 fk, kx_0 q_row q_cell len, kx_a q_cell cyI 160 f]) hP hD hS hA [3, 4, 1, 2] (by decide) rfl
      have hKc := hK
      refine va_callv (va_runV (As := [.ref q_row]) (rest := []) ⟨hx, hb, hml, hown, hts⟩ (kx_un (c_X1_learn l dC dI t_ t_k t_o cyI tk mo fk q_row q_cell len f s.heap.size a0 a1)) (cwV 1 hts gX4_parted_X1_learn rfl rfl rfl (by decide +kernel) ⟨Nat.le_of_ble_eq_true rfl, Nat.le_of_ble_eq_true rfl⟩) ⟨fun a U g mk q => by obtain ⟨q0, q1, qP, qK, qD⟩ := q; exact ⟨q0, q1, qP, va_K.moved (u := U) (U := U.calling g mk a) (Vm.Alike.refl U.vm) qK, qD⟩, kx_rc1 hKc hPc (q0 := 0) rfl, fun U hU hW => ⟨rfl, by rw [hU], by rw [hU]; exact hPc, va_K.moved hW.alike hKc, hDc.weaken (fun _ _ _ _ => trivial)⟩⟩ rfl rfl hl.1 rfl (lv_room (Nat.le_of_ble_eq_true rfl)) dX4_parted_22 ⟨Nat.le_of_ble_eq_true rfl, Nat.le_of_ble_eq_true rfl⟩) hS (fun q _ h => hFc q h) hFc (fun u t H1 locs ht hvm w_3 hB hz1 hk1 hS => ?_)
      obtain ⟨o_4, rfl⟩ : ∃ z, z = u := ⟨_, rfl⟩
      obtain ⟨hP1, hK1, hD1⟩ := hB
      rw [ht] at hP1
      have hK1 := va_K.moved hvm.symm hK1
      obtain ⟨hP, hD⟩ := kx_join (w2 := [kx_4 m_ q_row q_t t_ h0 k0 w_ z_ slots old, kx_a t_o cyI 160 fq, kx_a z_ cyI 161 fz, kx_1 t_ t_k t_o tk mo, kx_a t_k cyI 160 o_4, kx_0 q_row q_cell len, kx_a q_cell cyI 160 f]) hP hD hP1 hD1 hk1 hFc [3, 4, 1, 2] [0, 5, 6] hCc rfl (by decide) (by decide)
      clear hP1 hD1 hK1 hk1 hz1 hFc hDc hPc hKc hCc
      generalize H1 = H at hP hS ⊢
      have w_3 : kindOk o_4 len.toInt := w_3
      refine lv_aload_n hx hb dX4_parted_25 rfl (lv_at hl 0 rfl) ?_
      refine va_get (D := (dC, dI)) (ci := 4) (v := .ref z_) (C := RX4) (T := TX4) (N := 9) hx hb hts hi_4 hown hK hP 0 rfl rfl 6 (by decide) hf_46 (fun _ h9 => h9) rfl dX4_parted_26 ?_
      refine lv_iload_n hx hb dX4_parted_29 rfl (lv_at hl 2 rfl) ?_
      refine lv_iload_n hx hb dX4_parted_30 rfl (lv_at hl 1 rfl) ?_
      refine lv_isub hx hb dX4_parted_31 ?_
      refine lv_topi (fun y_5 ey_5 => ?_)
      have i_5 : y_5.toInt = p1.toInt - p0.toInt := ki_sub ey_5 rfl rfl (om_168 w_1.2.1) (om_169 a1 w_1.1 w_1.2.2)
      obtain ⟨hPc, hDc, hFc, hCc⟩ := kx_preM (wc := [kx_a z_ cyI 161 fz]) hP hD hS hA [false, false, true, false, false, false, false] rfl
      have hKc := hK
      refine va_callv (va_runS (As := [.ref z_, .int y_5]) (rest := []) ⟨hx, hb, hml, hown, hts⟩ (kx_un (c_J7_fill_161 l dC dI z_ cyI fz y_5 H.size)) (va_cwS 2 hts gX4_parted_J7_fill_53178 rfl rfl rfl (by decide +kernel) ⟨Nat.le_of_ble_eq_true rfl, Nat.le_of_ble_eq_true rfl⟩) ⟨fun a U g mk q => by obtain ⟨q0, q1, qP, qK, qD⟩ := q; exact ⟨q0, q1, qP, va_K.moved (u := U) (U := U.calling g mk a) (Vm.Alike.refl U.vm) qK, qD⟩, fun U hU hW => ⟨rfl, by rw [hU], by rw [hU]; exact hPc, va_K.moved hW.alike hKc, hDc.weaken (fun _ _ _ _ => trivial)⟩⟩ rfl rfl hl.1 rfl (lv_room (Nat.le_of_ble_eq_true rfl)) dX4_parted_32 ⟨Nat.le_of_ble_eq_true rfl, Nat.le_of_ble_eq_true rfl⟩) hS (fun q _ h => hFc q h) hFc (fun u t H1 locs ht hvm w_6 hB hz1 hk1 hS => ?_)
      obtain ⟨o_7, rfl⟩ : ∃ z, z = u := ⟨_, rfl⟩
      obtain ⟨hP1, hK1, hD1⟩ := hB
      rw [ht] at hP1
      have hK1 := va_K.moved hvm.symm hK1
      obtain ⟨hP, hD⟩ := kx_joinM (w2 := [kx_4 m_ q_row q_t t_ h0 k0 w_ z_ slots old, kx_a t_o cyI 160 fq, kx_a z_ cyI 161 o_7, kx_1 t_ t_k t_o tk mo, kx_a t_k cyI 160 o_4, kx_0 q_row q_cell len, kx_a q_cell cyI 160 f]) hP hD hP1 hD1 hk1 hFc [false, false, true, false, false, false, false] hCc rfl
      clear hP1 hD1 hK1 hk1 hz1 hFc hDc hPc hKc hCc
      generalize H1 = H at hP hS ⊢
      have w_6 : ∀ k : Nat, k < 161 → o_7 k = y_5 := w_6
      refine lv_aload_n hx hb dX4_parted_35 rfl (lv_at hl 0 rfl) ?_
      refine va_get (D := (dC, dI)) (ci := 4) (v := .ref z_) (C := RX4) (T := TX4) (N := 9) hx hb hts hi_4 hown hK hP 0 rfl rfl 6 (by decide) hf_46 (fun _ h9 => h9) rfl dX4_parted_36 ?_
      refine lv_iload_n hx hb dX4_parted_39 rfl (lv_at hl 1 rfl) ?_
      refine lv_iconst (v := 0) hx hb dX4_parted_40 (by decide) ?_
      refine va_iast hx hb hK hP hD hS 2 0 rfl rfl (ki_in (om_10 w_1.1) (om_174 a1 w_1.2.1 w_1.2.2)) dX4_parted_41 (fun H locs hP hD hS => ?_)
      obtain ⟨hP, hD⟩ := kx_re (w2 := [kx_4 m_ q_row q_t t_ h0 k0 w_ z_ slots old, kx_a t_o cyI 160 fq, kx_a z_ cyI 161 (upd o_7 p0.toNatClampNeg 0), kx_1 t_ t_k t_o tk mo, kx_a t_k cyI 160 o_4, kx_0 q_row q_cell len, kx_a q_cell cyI 160 f]) hP hD rfl
      refine lv_iload_n hx hb dX4_parted_42 rfl (lv_at hl 1 rfl) ?_
      refine lv_istore_n (lv' := [(3, .int p0), (0, .ref m_), (1, .int p0), (2, .int p1)]) hx hb dX4_parted_43 rfl hl (by decide) rfl (fun ls hl => ?_)
      have LP1 : ∀ (n : Nat) (i : Int32) (a_t : Int32) (a_m : Int32) (a_q : Nat → Int32) (az : Nat → Int32), (p0.toInt ≤ i.toInt) → (p1.toInt - i.toInt).toNat < n → ∀ (H : Heap) (locs : List Loc), va_P (dC, dI) vwCl [kx_4 m_ q_row q_t t_ h0 k0 w_ z_ slots old, kx_a t_o cyI 160 a_q, kx_a z_ cyI 161 az, kx_1 t_ t_k t_o a_t a_m, kx_a t_k cyI 160 o_4, kx_0 q_row q_cell len, kx_a q_cell cyI 160 f] H → va_D A [kx_4 m_ q_row q_t t_ h0 k0 w_ z_ slots old, kx_a t_o cyI 160 a_q, kx_a z_ cyI 161 az, kx_1 t_ t_k t_o a_t a_m, kx_a t_k cyI 160 o_4, kx_0 q_row q_cell len, kx_a q_cell cyI 160 f] → va_S A s.heap H locs → ∀ (ls : Array Slot), lv_has ls 5 [(3, .int i), (0, .ref m_), (1, .int p0), (2, .int p1)] → W p l e (headSpec wsX4_parted ({ frames := 2, cells := 0, slots := 0, locals := 90 })).room s m ([.ref m_, .int p0, .int p1] : List Value).toArray below meth c H locs 0 0 (MQ below (va_Qi (fun (r : Int32) (u : Int32 × Int32 × (Nat → Int32) × (Nat → Int32) × (Nat → Int32)) => True) (fun (u : Int32 × Int32 × (Nat → Int32) × (Nat → Int32) × (Nat → Int32)) (t : State) => va_P (dC, dI) vwCl [kx_4 m_ q_row q_t t_ h0 k0 w_ z_ slots old, kx_0 q_row q_cell len, kx_a q_cell cyI 160 f, kx_1 t_ t_k t_o u.1 u.2.1, kx_a t_k cyI 160 u.2.2.1, kx_a t_o cyI 160 u.2.2.2.1, kx_a z_ cyI 161 u.2.2.2.2] t.heap ∧ va_K (dC, dI) vwCl [(cyI, .int)] t ∧ va_D A [kx_4 m_ q_row q_t t_ h0 k0 w_ z_ slots old, kx_0 q_row q_cell len, kx_a q_cell cyI 160 f, kx_1 t_ t_k t_o u.1 u.2.1, kx_a t_k cyI 160 u.2.2.1, kx_a t_o cyI 160 u.2.2.2.1, kx_a z_ cyI 161 u.2.2.2.2]) A) ([.ref m_, .int p0, .int p1] : List Value).toArray s 0 0 A) (F0 m 44 ls []) := by
        intro n
        induction n with
        | zero => intro i a_t a_m a_q az LP1_h0 hn; exact absurd hn (Nat.not_lt_zero _)
        | succ n ih1 =>
          intro i a_t a_m a_q az LP1_h0 hn1 H locs hP hD hS ls hl
          refine lv_iload_n hx hb dX4_parted_44 rfl (lv_at hl 0 rfl) ?_
          refine lv_iload_n hx hb dX4_parted_45 rfl (lv_at hl 3 rfl) ?_
          refine lv_icmp_ge (tgt := 125) hx hb dX4_parted_46 (by decide) (fun c_8 => ?_) (fun c_8 => ?_)
          · have i_8 : p1.toInt ≤ i.toInt := kc_le c_8
            refine lv_aload_n hx hb dX4_parted_125 rfl (lv_at hl 1 rfl) ?_
            refine va_get (D := (dC, dI)) (ci := 4) (v := .ref z_) (C := RX4) (T := TX4) (N := 9) hx hb hts hi_4 hown hK hP 0 rfl rfl 6 (by decide) hf_46 (fun _ h9 => h9) rfl dX4_parted_126 ?_
            refine lv_iload_n hx hb dX4_parted_129 rfl (lv_at hl 3 rfl) ?_
            refine va_iald hx hb hK hP 2 0 rfl rfl (ki_in (om_21 w_1.1 w_1.2.1) (om_175 a1 w_1.2.2)) dX4_parted_130 ?_
            refine lv_topi (fun y_9 ey_9 => ?_)
            have j_9 : y_9.toInt = (az p1.toNatClampNeg).toInt := congrArg Int32.toInt ey_9
            obtain ⟨hP9, hD9⟩ := kx_sub (w2 := [kx_4 m_ q_row q_t t_ h0 k0 w_ z_ slots old, kx_0 q_row q_cell len, kx_a q_cell cyI 160 f, kx_1 t_ t_k t_o a_t a_m, kx_a t_k cyI 160 o_4, kx_a t_o cyI 160 a_q, kx_a z_ cyI 161 az]) hP hD [0, 5, 6, 3, 4, 1, 2] (by decide) rfl
            have hK9 := hK
            exact W.iret (v := y_9) hx hb hr (hlocks := hlocks) (fun t ht hW => ⟨⟨y_9, (a_t, a_m, o_4, a_q, az), rfl, trivial, by rw [ht]; exact hP9, va_K.moved hW.alike hK9, hD9⟩, hS.F ht⟩) hS.2.2 dX4_parted_131
          · have i_8 : i.toInt < p1.toInt := kc_nle c_8
            refine lv_aload_n hx hb dX4_parted_49 rfl (lv_at hl 1 rfl) ?_
            refine va_get (D := (dC, dI)) (ci := 4) (v := .ref t_) (C := RX4) (T := TX4) (N := 9) hx hb hts hi_4 hown hK hP 0 rfl rfl 2 (by decide) hf_28 (fun _ h9 => h9) rfl dX4_parted_50 ?_
            obtain ⟨hPc, hDc, hFc, hCc⟩ := kx_pre (wc := [kx_1 t_ t_k t_o a_t a_m, kx_a t_o cyI 160 a_q]) hP hD hS hA [3, 1] (by decide) rfl
            have hKc := hK
            refine va_callv (va_runV (As := []) (rest := []) ⟨hx, hb, hml, hown, hts⟩ (kx_un (c_X1_clear l dC dI t_ t_k t_o cyI a_t a_m a_q H.size)) (cwV 0 hts gX4_parted_X1_clear rfl rfl rfl (by decide +kernel) ⟨Nat.le_of_ble_eq_true rfl, Nat.le_of_ble_eq_true rfl⟩) ⟨fun a U g mk q => by obtain ⟨q0, q1, qP, qK, qD⟩ := q; exact ⟨q0, q1, qP, va_K.moved (u := U) (U := U.calling g mk a) (Vm.Alike.refl U.vm) qK, qD⟩, kx_rc1 hKc hPc (q0 := 0) rfl, fun U hU hW => ⟨rfl, by rw [hU], by rw [hU]; exact hPc, va_K.moved hW.alike hKc, hDc.weaken (fun _ _ _ _ => trivial)⟩⟩ rfl rfl hl.1 rfl (lv_room (Nat.le_of_ble_eq_true rfl)) dX4_parted_53 ⟨Nat.le_of_ble_eq_true rfl, Nat.le_of_ble_eq_true rfl⟩) hS (fun q _ h => hFc q h) hFc (fun u t H1 locs ht hvm w_10 hB hz1 hk1 hS => ?_)
            obtain ⟨o_11, rfl⟩ : ∃ z, z = u := ⟨_, rfl⟩
            obtain ⟨hP1, hK1, hD1⟩ := hB
            rw [ht] at hP1
            have hK1 := va_K.moved hvm.symm hK1
            obtain ⟨hP, hD⟩ := kx_join (w2 := [kx_4 m_ q_row q_t t_ h0 k0 w_ z_ slots old, kx_a z_ cyI 161 az, kx_a t_k cyI 160 o_4, kx_0 q_row q_cell len, kx_a q_cell cyI 160 f, kx_1 t_ t_k t_o 0 0, kx_a t_o cyI 160 o_11]) hP hD hP1 hD1 hk1 hFc [3, 1] [0, 2, 4, 5, 6] hCc rfl (by decide) (by decide)
            clear hP1 hD1 hK1 hk1 hz1 hFc hDc hPc hKc hCc
            generalize H1 = H at hP hS ⊢
            have w_10 : ∀ k : Nat, k < 160 → o_11 k = 0 := w_10
            refine lv_iload_n hx hb dX4_parted_56 rfl (lv_at hl 0 rfl) ?_
            refine lv_istore (lv' := [(4, .int i), (3, .int i), (0, .ref m_), (1, .int p0), (2, .int p1)]) hx hb dX4_parted_57 hl (by decide) rfl (fun ls hl => ?_)
            have LP2 : ∀ (n : Nat) (j : Int32) (b_t : Int32) (b_m : Int32) (b_q : Nat → Int32) (bz : Nat → Int32), (i.toInt ≤ j.toInt) → (p1.toInt - j.toInt).toNat < n → ∀ (H : Heap) (locs : List Loc), va_P (dC, dI) vwCl [kx_4 m_ q_row q_t t_ h0 k0 w_ z_ slots old, kx_a z_ cyI 161 bz, kx_a t_k cyI 160 o_4, kx_0 q_row q_cell len, kx_a q_cell cyI 160 f, kx_1 t_ t_k t_o b_t b_m, kx_a t_o cyI 160 b_q] H → va_D A [kx_4 m_ q_row q_t t_ h0 k0 w_ z_ slots old, kx_a z_ cyI 161 bz, kx_a t_k cyI 160 o_4, kx_0 q_row q_cell len, kx_a q_cell cyI 160 f, kx_1 t_ t_k t_o b_t b_m, kx_a t_o cyI 160 b_q] → va_S A s.heap H locs → ∀ (ls : Array Slot), lv_has ls 5 [(4, .int j), (3, .int i), (0, .ref m_), (1, .int p0), (2, .int p1)] → W p l e (headSpec wsX4_parted ({ frames := 2, cells := 0, slots := 0, locals := 90 })).room s m ([.ref m_, .int p0, .int p1] : List Value).toArray below meth c H locs 0 0 (MQ below (va_Qi (fun (r : Int32) (u : Int32 × Int32 × (Nat → Int32) × (Nat → Int32) × (Nat → Int32)) => True) (fun (u : Int32 × Int32 × (Nat → Int32) × (Nat → Int32) × (Nat → Int32)) (t : State) => va_P (dC, dI) vwCl [kx_4 m_ q_row q_t t_ h0 k0 w_ z_ slots old, kx_0 q_row q_cell len, kx_a q_cell cyI 160 f, kx_1 t_ t_k t_o u.1 u.2.1, kx_a t_k cyI 160 u.2.2.1, kx_a t_o cyI 160 u.2.2.2.1, kx_a z_ cyI 161 u.2.2.2.2] t.heap ∧ va_K (dC, dI) vwCl [(cyI, .int)] t ∧ va_D A [kx_4 m_ q_row q_t t_ h0 k0 w_ z_ slots old, kx_0 q_row q_cell len, kx_a q_cell cyI 160 f, kx_1 t_ t_k t_o u.1 u.2.1, kx_a t_k cyI 160 u.2.2.1, kx_a t_o cyI 160 u.2.2.2.1, kx_a z_ cyI 161 u.2.2.2.2]) A) ([.ref m_, .int p0, .int p1] : List Value).toArray s 0 0 A) (F0 m 59 ls []) := by
              intro n
              induction n with
              | zero => intro j b_t b_m b_q bz LP2_h0 hn; exact absurd hn (Nat.not_lt_zero _)
              | succ n ih2 =>
                intro j b_t b_m b_q bz LP2_h0 hn2 H locs hP hD hS ls hl
                refine lv_iload hx hb dX4_parted_59 (lv_at hl 0 rfl) ?_
                refine lv_iload_n hx hb dX4_parted_61 rfl (lv_at hl 4 rfl) ?_
                refine lv_icmp_ge (tgt := 119) hx hb dX4_parted_62 (by decide) (fun c_12 => ?_) (fun c_12 => ?_)
                · have i_12 : p1.toInt ≤ j.toInt := kc_le c_12
                  obtain ⟨x_13, ex_13⟩ : ∃ y : Int32, y = i + 1 := ⟨_, rfl⟩
                  have i_13 : x_13.toInt = i.toInt + 1 := ki_add ex_13 rfl rfl (om_2 w_1.1 LP1_h0) (om_172 a1 w_1.2.2 i_8)
                  refine lv_iinc (v := x_13) (lv' := [(3, .int x_13), (4, .int j), (0, .ref m_), (1, .int p0), (2, .int p1)]) hx hb dX4_parted_119 hl (k := 1) rfl (by rw [ex_13]; rfl) (by decide) rfl (fun ls hl => ?_)
                  refine lv_goto (tgt := 44) hx hb dX4_parted_122 (by decide) ?_
                  have hP : va_P (dC, dI) vwCl [kx_4 m_ q_row q_t t_ h0 k0 w_ z_ slots old, kx_a t_o cyI 160 b_q, kx_a z_ cyI 161 bz, kx_1 t_ t_k t_o b_t b_m, kx_a t_k cyI 160 o_4, kx_0 q_row q_cell len, kx_a q_cell cyI 160 f] _ := hP.sub [0, 6, 1, 5, 2, 3, 4] rfl
                  have hD : va_D A [kx_4 m_ q_row q_t t_ h0 k0 w_ z_ slots old, kx_a t_o cyI 160 b_q, kx_a z_ cyI 161 bz, kx_1 t_ t_k t_o b_t b_m, kx_a t_k cyI 160 o_4, kx_0 q_row q_cell len, kx_a q_cell cyI 160 f] := hD.sub [0, 6, 1, 5, 2, 3, 4] (by decide) rfl
                  exact ih1 x_13 b_t b_m b_q bz (om_4 LP1_h0 i_13) (om_mu hn1 (om_5 i_13) (om_6 i_8)) _ _ hP hD hS ls (lv_sub hl [0, 2, 3, 4] rfl)
                · have i_12 : j.toInt < p1.toInt := kc_nle c_12
                  refine lv_aload_n hx hb dX4_parted_65 rfl (lv_at hl 2 rfl) ?_
                  refine va_get (D := (dC, dI)) (ci := 4) (v := .ref t_) (C := RX4) (T := TX4) (N := 9) hx hb hts hi_4 hown hK hP 0 rfl rfl 2 (by decide) hf_28 (fun _ h9 => h9) rfl dX4_parted_66 ?_
                  refine lv_iload hx hb dX4_parted_69 (lv_at hl 0 rfl) ?_
                  obtain ⟨hPc, hDc, hFc, hCc⟩ := kx_pre (wc := [kx_1 t_ t_k t_o b_t b_m, kx_a t_k cyI 160 o_4, kx_a t_o cyI 160 b_q]) hP hD hS hA [5, 2, 6] (by decide) rfl
                  have hKc := hK
                  refine va_callv (va_runV (As := [.int j]) (rest := []) ⟨hx, hb, hml, hown, hts⟩ (kx_un (c_X1_take l dC dI t_ t_k t_o cyI b_t b_m o_4 b_q len.toInt j H.size w_3 (om_176 w_1.1 LP1_h0 LP2_h0) (om_177 w_1.2.2 i_12) a1)) (cwV 1 hts gX4_parted_X1_take rfl rfl rfl (by decide +kernel) ⟨Nat.le_of_ble_eq_true rfl, Nat.le_of_ble_eq_true rfl⟩) ⟨fun a U g mk q => by obtain ⟨q0, q1, qP, qK, qD⟩ := q; exact ⟨q0, q1, qP, va_K.moved (u := U) (U := U.calling g mk a) (Vm.Alike.refl U.vm) qK, qD⟩, kx_rc1 hKc hPc (q0 := 0) rfl, fun U hU hW => ⟨rfl, by rw [hU], by rw [hU]; exact hPc, va_K.moved hW.alike hKc, hDc.weaken (fun _ _ _ _ => trivial)⟩⟩ rfl rfl hl.1 rfl (lv_room (Nat.le_of_ble_eq_true rfl)) dX4_parted_71 ⟨Nat.le_of_ble_eq_true rfl, Nat.le_of_ble_eq_true rfl⟩) hS (fun q _ h => hFc q h) hFc (fun u t H1 locs ht hvm w_14 hB hz1 hk1 hS => ?_)
                  obtain ⟨o_15, o_16, o_17⟩ := u
                  dsimp only at w_14 hB
                  obtain ⟨hP1, hK1, hD1⟩ := hB
                  rw [ht] at hP1
                  have hK1 := va_K.moved hvm.symm hK1
                  obtain ⟨hP, hD⟩ := kx_join (w2 := [kx_4 m_ q_row q_t t_ h0 k0 w_ z_ slots old, kx_a z_ cyI 161 bz, kx_0 q_row q_cell len, kx_a q_cell cyI 160 f, kx_1 t_ t_k t_o o_15 o_16, kx_a t_k cyI 160 o_4, kx_a t_o cyI 160 o_17]) hP hD hP1 hD1 hk1 hFc [5, 2, 6] [0, 1, 3, 4] hCc rfl (by decide) (by decide)
                  clear hP1 hD1 hK1 hk1 hz1 hFc hDc hPc hKc hCc
                  generalize H1 = H at hP hS ⊢
                  have w_14 : True := w_14
                  refine lv_aload_n hx hb dX4_parted_74 rfl (lv_at hl 2 rfl) ?_
                  refine va_get (D := (dC, dI)) (ci := 4) (v := .ref t_) (C := RX4) (T := TX4) (N := 9) hx hb hts hi_4 hown hK hP 0 rfl rfl 2 (by decide) hf_28 (fun _ h9 => h9) rfl dX4_parted_75 ?_
                  have hPc := hP.sub (ws' := [kx_1 t_ t_k t_o o_15 o_16]) [4] rfl
                  have hKc := hK.sub (tys' := []) [] rfl
                  refine vp_callSi (W.runV (As := []) (rest := []) ⟨hx, hb, hml, hown, hts⟩ (c_X1_hasMajority l dC dI t_ t_k t_o o_15 o_16) (cwV 0 hts gX4_parted_X1_hasMajority rfl rfl rfl (by decide +kernel) ⟨Nat.le_of_ble_eq_true rfl, Nat.le_of_ble_eq_true rfl⟩) ⟨fun a U g mk q => by obtain ⟨q0, qP, qK⟩ := q; exact ⟨q0, qP, va_K.moved (u := U) (U := U.calling g mk a) (Vm.Alike.refl U.vm) qK⟩, kx_rc1 hKc hPc (q0 := 0) rfl, fun U hU hW => ⟨rfl, by rw [hU]; exact hPc, va_K.moved hW.alike hKc⟩⟩ rfl rfl hl.1 rfl (lv_room (Nat.le_of_ble_eq_true rfl)) dX4_parted_78 ⟨Nat.le_of_ble_eq_true rfl, Nat.le_of_ble_eq_true rfl⟩) (fun r_18 w_18 => ?_)
                  rcases w_18 with ⟨rfl, w_18⟩ | ⟨rfl, w_18⟩
                  · have w_18 : (0 : Int) ≤ 1 := w_18
                    refine lv_if_eq (tgt := 113) hx hb dX4_parted_81 (by decide) (fun c_19 => ?_) (fun c_19 => ?_)
                    · exact absurd c_19 (by decide)
                    · refine lv_aload_n hx hb dX4_parted_84 rfl (lv_at hl 2 rfl) ?_
                      refine va_get (D := (dC, dI)) (ci := 4) (v := .ref z_) (C := RX4) (T := TX4) (N := 9) hx hb hts hi_4 hown hK hP 0 rfl rfl 6 (by decide) hf_46 (fun _ h9 => h9) rfl dX4_parted_85 ?_
                      refine lv_iload hx hb dX4_parted_88 (lv_at hl 0 rfl) ?_
                      refine lv_iconst (v := 1) hx hb dX4_parted_90 (by decide) ?_
                      refine lv_iadd hx hb dX4_parted_91 ?_
                      refine lv_topi (fun y_20 ey_20 => ?_)
                      have i_20 : y_20.toInt = j.toInt + 1 := ki_add ey_20 rfl rfl (om_178 w_1.1 LP1_h0 LP2_h0) (om_172 a1 w_1.2.2 i_12)
                      refine lv_aload_n hx hb dX4_parted_92 rfl (lv_at hl 2 rfl) ?_
                      refine va_get (D := (dC, dI)) (ci := 4) (v := .ref z_) (C := RX4) (T := TX4) (N := 9) hx hb hts hi_4 hown hK hP 0 rfl rfl 6 (by decide) hf_46 (fun _ h9 => h9) rfl dX4_parted_93 ?_
                      refine lv_iload hx hb dX4_parted_96 (lv_at hl 0 rfl) ?_
                      refine lv_iconst (v := 1) hx hb dX4_parted_98 (by decide) ?_
                      refine lv_iadd hx hb dX4_parted_99 ?_
                      refine lv_topi (fun y_21 ey_21 => ?_)
                      have i_21 : y_21.toInt = j.toInt + 1 := ki_add ey_21 rfl rfl (om_178 w_1.1 LP1_h0 LP2_h0) (om_172 a1 w_1.2.2 i_12)
                      refine va_iald hx hb hK hP 1 0 rfl rfl (ki_in (om_179 w_1.1 LP1_h0 LP2_h0 i_21) (om_180 a1 w_1.2.2 i_12 i_21)) dX4_parted_100 ?_
                      refine lv_topi (fun y_22 ey_22 => ?_)
                      have j_22 : y_22.toInt = (bz y_21.toNatClampNeg).toInt := congrArg Int32.toInt ey_22
                      refine lv_aload_n hx hb dX4_parted_101 rfl (lv_at hl 2 rfl) ?_
                      refine va_get (D := (dC, dI)) (ci := 4) (v := .ref z_) (C := RX4) (T := TX4) (N := 9) hx hb hts hi_4 hown hK hP 0 rfl rfl 6 (by decide) hf_46 (fun _ h9 => h9) rfl dX4_parted_102 ?_
                      refine lv_iload_n hx hb dX4_parted_105 rfl (lv_at hl 1 rfl) ?_
                      refine va_iald hx hb hK hP 1 0 rfl rfl (ki_in (om_0 w_1.1 LP1_h0) (om_181 a1 w_1.2.2 i_8)) dX4_parted_106 ?_
                      refine lv_topi (fun y_23 ey_23 => ?_)
                      have j_23 : y_23.toInt = (bz i.toNatClampNeg).toInt := congrArg Int32.toInt ey_23
                      refine lv_iconst (v := 1) hx hb dX4_parted_107 (by decide) ?_
                      refine lv_iadd hx hb dX4_parted_108 ?_
                      refine lv_topi (fun y_24 ey_24 => ?_)
                      refine va_mmin hx hb (hml.trans hl.1.symm) hown hm_91 hms_min hz_math hmc_min (Nat.le_of_ble_eq_true rfl) (Nat.le_of_ble_eq_true rfl) (Nat.le_of_ble_eq_true rfl) (Nat.le_of_ble_eq_true rfl) dX4_parted_109 ?_
                      refine lv_topi (fun y_25 ey_25 => ?_)
                      have i_26 : (y_22.toInt ≤ y_24.toInt ∧ y_25.toInt = y_22.toInt) ∨ (y_24.toInt < y_22.toInt ∧ y_25.toInt = y_24.toInt) := ki_min ey_25 rfl rfl
                      refine va_iast hx hb hK hP hD hS 1 0 rfl rfl (ki_in (om_179 w_1.1 LP1_h0 LP2_h0 i_20) (om_180 a1 w_1.2.2 i_12 i_20)) dX4_parted_112 (fun H locs hP hD hS => ?_)
                      obtain ⟨hP, hD⟩ := kx_re (w2 := [kx_4 m_ q_row q_t t_ h0 k0 w_ z_ slots old, kx_a z_ cyI 161 (upd bz y_20.toNatClampNeg y_25), kx_0 q_row q_cell len, kx_a q_cell cyI 160 f, kx_1 t_ t_k t_o o_15 o_16, kx_a t_k cyI 160 o_4, kx_a t_o cyI 160 o_17]) hP hD rfl
                      obtain ⟨x_27, ex_27⟩ : ∃ y : Int32, y = j + 1 := ⟨_, rfl⟩
                      have i_27 : x_27.toInt = j.toInt + 1 := ki_add ex_27 rfl rfl (om_178 w_1.1 LP1_h0 LP2_h0) (om_172 a1 w_1.2.2 i_12)
                      refine lv_iinc (v := x_27) (lv' := [(4, .int x_27), (3, .int i), (0, .ref m_), (1, .int p0), (2, .int p1)]) hx hb dX4_parted_113 hl (k := 0) rfl (by rw [ex_27]; rfl) (by decide) rfl (fun ls hl => ?_)
                      refine lv_goto (tgt := 59) hx hb dX4_parted_116 (by decide) ?_
                      have hP : va_P (dC, dI) vwCl [kx_4 m_ q_row q_t t_ h0 k0 w_ z_ slots old, kx_a z_ cyI 161 (upd bz y_20.toNatClampNeg y_25), kx_a t_k cyI 160 o_4, kx_0 q_row q_cell len, kx_a q_cell cyI 160 f, kx_1 t_ t_k t_o o_15 o_16, kx_a t_o cyI 160 o_17] _ := hP.sub [0, 1, 5, 2, 3, 4, 6] rfl
                      have hD : va_D A [kx_4 m_ q_row q_t t_ h0 k0 w_ z_ slots old, kx_a z_ cyI 161 (upd bz y_20.toNatClampNeg y_25), kx_a t_k cyI 160 o_4, kx_0 q_row q_cell len, kx_a q_cell cyI 160 f, kx_1 t_ t_k t_o o_15 o_16, kx_a t_o cyI 160 o_17] := hD.sub [0, 1, 5, 2, 3, 4, 6] (by decide) rfl
                      exact ih2 x_27 o_15 o_16 o_17 (upd bz y_20.toNatClampNeg y_25) (om_4 LP2_h0 i_27) (om_mu hn2 (om_5 i_27) (om_6 i_12)) _ _ hP hD hS ls (lv_sub hl [0, 1, 2, 3, 4] rfl)
                  · have w_18 : (0 : Int) ≤ 1 := w_18
                    refine lv_if_eq (tgt := 113) hx hb dX4_parted_81 (by decide) (fun c_28 => ?_) (fun c_28 => ?_)
                    · obtain ⟨x_29, ex_29⟩ : ∃ y : Int32, y = j + 1 := ⟨_, rfl⟩
                      have i_29 : x_29.toInt = j.toInt + 1 := ki_add ex_29 rfl rfl (om_178 w_1.1 LP1_h0 LP2_h0) (om_172 a1 w_1.2.2 i_12)
                      refine lv_iinc (v := x_29) (lv' := [(4, .int x_29), (3, .int i), (0, .ref m_), (1, .int p0), (2, .int p1)]) hx hb dX4_parted_113 hl (k := 0) rfl (by rw [ex_29]; rfl) (by decide) rfl (fun ls hl => ?_)
                      refine lv_goto (tgt := 59) hx hb dX4_parted_116 (by decide) ?_
                      have hP : va_P (dC, dI) vwCl [kx_4 m_ q_row q_t t_ h0 k0 w_ z_ slots old, kx_a z_ cyI 161 bz, kx_a t_k cyI 160 o_4, kx_0 q_row q_cell len, kx_a q_cell cyI 160 f, kx_1 t_ t_k t_o o_15 o_16, kx_a t_o cyI 160 o_17] _ := hP.sub [0, 1, 5, 2, 3, 4, 6] rfl
                      have hD : va_D A [kx_4 m_ q_row q_t t_ h0 k0 w_ z_ slots old, kx_a z_ cyI 161 bz, kx_a t_k cyI 160 o_4, kx_0 q_row q_cell len, kx_a q_cell cyI 160 f, kx_1 t_ t_k t_o o_15 o_16, kx_a t_o cyI 160 o_17] := hD.sub [0, 1, 5, 2, 3, 4, 6] (by decide) rfl
                      exact ih2 x_29 o_15 o_16 o_17 bz (om_4 LP2_h0 i_29) (om_mu hn2 (om_5 i_29) (om_6 i_12)) _ _ hP hD hS ls (lv_sub hl [0, 1, 2, 3, 4] rfl)
                    · exact absurd c_28 (by decide)
            have k_30 : (0 : Int32).toInt = 0 := rfl
            have k_31 : (0 : Int32).toInt = 0 := rfl
            exact LP2 ((p1.toInt - i.toInt : Int).toNat + 1) i 0 0 o_11 az om_7 (Nat.lt_succ_self _) _ _ hP hD hS ls (lv_sub hl [0, 1, 2, 3, 4] rfl)
      exact LP1 ((p1.toInt - p0.toInt : Int).toNat + 1) p0 tk mo fq (upd o_7 p0.toNatClampNeg 0) om_7 (Nat.lt_succ_self _) _ _ hP hD hS ls (lv_sub hl [0, 1, 2, 3] rfl)
    · exact absurd c_2 (by decide)
  · have w_1 : (p0.toInt < 0 ∨ p1.toInt ≤ p0.toInt ∨ len.toInt < p1.toInt) := w_1
    refine lv_if_ne (tgt := 14) hx hb dX4_parted_9 (by decide) (fun c_32 => ?_) (fun c_32 => ?_)
    · exact absurd c_32 (by decide)
    · refine lv_iconst (v := (-1)) hx hb dX4_parted_12 (by decide) ?_
      have hP9 := hP
      have hD9 := hD
      have hK9 := hK
      exact W.iret (v := (-1)) hx hb hr (hlocks := hlocks) (fun t ht hW => ⟨⟨(-1), (tk, mo, fk, fq, fz), rfl, trivial, by rw [ht]; exact hP9, va_K.moved hW.alike hK9, hD9⟩, hS.F ht⟩) hS.2.2 dX4_parted_13

set_option maxHeartbeats 4000000 in
set_option maxRecDepth 100000 in
theorem c_X4_creditHeavy (l : Launch) (dC : Nat → ClassId) (dI : Nat → Nat → Nat) (m_ : Nat) (q_row : Nat) (q_t : Nat) (t_ : Nat) (h0 : Nat) (k0 : Nat) (w_ : Nat) (z_ : Nat) (slots : Int32) (old : Int32) (q_cell : Nat) (cyI : ClassId) (len : Int32) (f : Nat → Int32) (t_k : Nat) (t_o : Nat) (tk : Int32) (mo : Int32) (fk : Nat → Int32) (fq : Nat → Int32) (fw : Nat → Int32) (p0 : Int32) (p1 : Int32) (p2 : Int32) (sz : Nat) (a0 : 0 ≤ len.toInt) (a1 : len.toInt ≤ 160) : kx_MQ l (dC, dI) yX4_creditHeavy wsX4_creditHeavy ({ frames := 1, cells := 0, slots := 0, locals := 45 }) [.ref m_, .int p0, .int p1, .int p2] [kx_4 m_ q_row q_t t_ h0 k0 w_ z_ slots old, kx_0 q_row q_cell len, kx_a q_cell cyI 160 f, kx_1 t_ t_k t_o tk mo, kx_a t_k cyI 160 fk, kx_a t_o cyI 160 fq, kx_a w_ cyI 160 fw] [(cyI, .int)] sz (fun A => va_Qi (fun (r : Int32) (u : (Nat → Int32)) => r = 1 ∨ r = 0) (fun (u : (Nat → Int32)) (t : State) => va_P (dC, dI) vwCl [kx_4 m_ q_row q_t t_ h0 k0 w_ z_ slots old, kx_0 q_row q_cell len, kx_a q_cell cyI 160 f, kx_1 t_ t_k t_o tk mo, kx_a t_k cyI 160 fk, kx_a t_o cyI 160 fq, kx_a w_ cyI 160 u] t.heap ∧ va_K (dC, dI) vwCl [(cyI, .int)] t ∧ va_D A [kx_4 m_ q_row q_t t_ h0 k0 w_ z_ slots old, kx_0 q_row q_cell len, kx_a q_cell cyI 160 f, kx_1 t_ t_k t_o tk mo, kx_a t_k cyI 160 fk, kx_a t_o cyI 160 fq, kx_a w_ cyI 160 u]) A) := by
  refine kx_stQ (ws := wsX4_creditHeavy) (cc := cX4_creditHeavy) (maxL := 6) (ret := (some .boolean)) (by decide) rfl (Nat.le_of_ble_eq_true rfl) ?_
  intro p e s m below meth c A ls hx hb hr hlocks hts hown hml hA hS hP hK hD hl
  have hown : s.vm.findClass RX4 = some m.cls := hown
  have hl : lv_has ls 6 [(0, .ref m_), (1, .int p0), (2, .int p1), (3, .int p2)] := hl
  have hf_12 := hts (.fieldLink RX4 12 "MajorityIndex" "row" "LMajorityIndex$Row;") (List.mem_of_getElem? (i := 1) rfl)
  have hi_4 : ∀ w ∈ u_ws RX4 TX4 9, w ∈ wsX4_creditHeavy := fun w h => List.mem_cons_of_mem _ (List.mem_append_left _ (List.mem_append_left _ (List.mem_append_right _ h)))
  have hf_57 := hts (.fieldLink RX4 57 "MajorityIndex$Row" "length" "I") (List.mem_of_getElem? (i := 2) rfl)
  have hi_0 : ∀ w ∈ u_ws RX0 TX0 2, w ∈ wsX4_creditHeavy := fun w h => List.mem_cons_of_mem _ (List.mem_append_left _ (List.mem_append_right _ h))
  have hf_28 := hts (.fieldLink RX4 28 "MajorityIndex" "tally" "LMajorityIndex$Tally;") (List.mem_of_getElem? (i := 3) rfl)
  have hf_283 := hts (.fieldLink RX4 283 "MajorityIndex$Tally" "often" "[I") (List.mem_of_getElem? (i := 4) rfl)
  have hi_1 : ∀ w ∈ u_ws RX1 TX1 4, w ∈ wsX4_creditHeavy := fun w h => List.mem_cons_of_mem _ (List.mem_append_right _ h)
  have hf_42 := hts (.fieldLink RX4 42 "MajorityIndex" "wins" "[I") (List.mem_of_getElem? (i := 5) rfl)
  refine lv_iconst (v := 0) hx hb dX4_creditHeavy_0 (by decide) ?_
  refine lv_istore (lv' := [(4, .int 0), (0, .ref m_), (1, .int p0), (2, .int p1), (3, .int p2)]) hx hb dX4_creditHeavy_1 hl (by decide) rfl (fun ls hl => ?_)
  refine lv_iconst (v := 0) hx hb dX4_creditHeavy_3 (by decide) ?_
  refine lv_istore (lv' := [(5, .int 0), (4, .int 0), (0, .ref m_), (1, .int p0), (2, .int p1), (3, .int p2)]) hx hb dX4_creditHeavy_4 hl (by decide) rfl (fun ls hl => ?_)
  have LP1 : ∀ (n : Nat) (i : Int32) (so : Int32) (gw : Nat → Int32), (0 ≤ i.toInt) → (so = 0 ∨ so = 1) → (len.toInt - i.toInt).toNat < n → ∀ (H : Heap) (locs : List Loc), va_P (dC, dI) vwCl [kx_4 m_ q_row q_t t_ h0 k0 w_ z_ slots old, kx_0 q_row q_cell len, kx_a q_cell cyI 160 f, kx_1 t_ t_k t_o tk mo, kx_a t_k cyI 160 fk, kx_a t_o cyI 160 fq, kx_a w_ cyI 160 gw] H → va_D A [kx_4 m_ q_row q_t t_ h0 k0 w_ z_ slots old, kx_0 q_row q_cell len, kx_a q_cell cyI 160 f, kx_1 t_ t_k t_o tk mo, kx_a t_k cyI 160 fk, kx_a t_o cyI 160 fq, kx_a w_ cyI 160 gw] → va_S A s.heap H locs → ∀ (ls : Array Slot), lv_has ls 6 [(5, .int i), (4, .int so), (0, .ref m_), (1, .int p0), (2, .int p1), (3, .int p2)] → W p l e (headSpec wsX4_creditHeavy ({ frames := 1, cells := 0, slots := 0, locals := 45 })).room s m ([.ref m_, .int p0, .int p1, .int p2] : List Value).toArray below meth c H locs 0 0 (MQ below (va_Qi (fun (r : Int32) (u : (Nat → Int32)) => r = 1 ∨ r = 0) (fun (u : (Nat → Int32)) (t : State) => va_P (dC, dI) vwCl [kx_4 m_ q_row q_t t_ h0 k0 w_ z_ slots old, kx_0 q_row q_cell len, kx_a q_cell cyI 160 f, kx_1 t_ t_k t_o tk mo, kx_a t_k cyI 160 fk, kx_a t_o cyI 160 fq, kx_a w_ cyI 160 u] t.heap ∧ va_K (dC, dI) vwCl [(cyI, .int)] t ∧ va_D A [kx_4 m_ q_row q_t t_ h0 k0 w_ z_ slots old, kx_0 q_row q_cell len, kx_a q_cell cyI 160 f, kx_1 t_ t_k t_o tk mo, kx_a t_k cyI 160 fk, kx_a t_o cyI 160 fq, kx_a w_ cyI 160 u]) A) ([.ref m_, .int p0, .int p1, .int p2] : List Value).toArray s 0 0 A) (F0 m 6 ls []) := by
    intro n
    induction n with
    | zero => intro i so gw LP1_h0 LP1_h1 hn; exact absurd hn (Nat.not_lt_zero _)
    | succ n ih1 =>
      intro i so gw LP1_h0 LP1_h1 hn1 H locs hP hD hS ls hl
      refine lv_iload hx hb dX4_creditHeavy_6 (lv_at hl 0 rfl) ?_
      refine lv_aload_n hx hb dX4_creditHeavy_8 rfl (lv_at hl 2 rfl) ?_
      refine va_get (D := (dC, dI)) (ci := 4) (v := .ref q_row) (C := RX4) (T := TX4) (N := 9) hx hb hts hi_4 hown hK hP 0 rfl rfl 0 (by decide) hf_12 (fun _ h9 => h9) rfl dX4_creditHeavy_9 ?_
      refine va_get (D := (dC, dI)) (ci := 0) (v := .int len) (C := RX0) (T := TX0) (N := 2) hx hb hts hi_0 hown hK hP 1 rfl rfl 1 (by decide) hf_57 (fun _ h9 => h9) rfl dX4_creditHeavy_12 ?_
      refine lv_icmp_ge (tgt := 57) hx hb dX4_creditHeavy_15 (by decide) (fun c_1 => ?_) (fun c_1 => ?_)
      · have i_1 : len.toInt ≤ i.toInt := kc_le c_1
        refine lv_iload hx hb dX4_creditHeavy_57 (lv_at hl 1 rfl) ?_
        have hP9 := hP
        have hD9 := hD
        have hK9 := hK
        exact W.zret (v := so) hx hb hr (by rcases LP1_h1 with h | h <;> rw [h] <;> decide) (hlocks := hlocks) (fun t ht hW => ⟨⟨so, (gw), rfl, (Or.symm LP1_h1), by rw [ht]; exact hP9, va_K.moved hW.alike hK9, hD9⟩, hS.F ht⟩) hS.2.2 dX4_creditHeavy_59
      · have i_1 : i.toInt < len.toInt := kc_nle c_1
        refine lv_aload_n hx hb dX4_creditHeavy_18 rfl (lv_at hl 2 rfl) ?_
        refine va_get (D := (dC, dI)) (ci := 4) (v := .ref t_) (C := RX4) (T := TX4) (N := 9) hx hb hts hi_4 hown hK hP 0 rfl rfl 2 (by decide) hf_28 (fun _ h9 => h9) rfl dX4_creditHeavy_19 ?_
        refine va_get (D := (dC, dI)) (ci := 1) (v := .ref t_o) (C := RX1) (T := TX1) (N := 4) hx hb hts hi_1 hown hK hP 3 rfl rfl 1 (by decide) hf_283 (fun _ h9 => h9) rfl dX4_creditHeavy_22 ?_
        refine lv_iload hx hb dX4_creditHeavy_25 (lv_at hl 0 rfl) ?_
        refine va_iald hx hb hK hP 5 0 rfl rfl (ki_in (om_10 LP1_h0) (om_1 a1 i_1)) dX4_creditHeavy_27 ?_
        refine lv_topi (fun y_2 ey_2 => ?_)
        have j_2 : y_2.toInt = (fq i.toNatClampNeg).toInt := congrArg Int32.toInt ey_2
        refine lv_iload_n hx hb dX4_creditHeavy_28 rfl (lv_at hl 3 rfl) ?_
        refine lv_iload_n hx hb dX4_creditHeavy_29 rfl (lv_at hl 4 rfl) ?_
        refine lv_iload_n hx hb dX4_creditHeavy_30 rfl (lv_at hl 5 rfl) ?_
        have hPc := hP.sub (ws' := []) [] rfl
        have hKc := hK.sub (tys' := []) [] rfl
        refine vp_callSi (W.runS (As := [.int y_2, .int p0, .int p1, .int p2]) (rest := []) ⟨hx, hb, hml, hown, hts⟩ (c_X4_isHeavy l dC dI y_2 p0 p1 p2) (va_cwS 4 hts gX4_creditHeavy_X4_isHeavy rfl rfl rfl (by decide +kernel) ⟨Nat.le_of_ble_eq_true rfl, Nat.le_of_ble_eq_true rfl⟩) ⟨fun a U g mk q => by obtain ⟨q0, qP, qK⟩ := q; exact ⟨q0, qP, va_K.moved (u := U) (U := U.calling g mk a) (Vm.Alike.refl U.vm) qK⟩, fun U hU hW => ⟨rfl, by rw [hU]; exact hPc, va_K.moved hW.alike hKc⟩⟩ rfl rfl hl.1 rfl (lv_room (Nat.le_of_ble_eq_true rfl)) dX4_creditHeavy_31 ⟨Nat.le_of_ble_eq_true rfl, Nat.le_of_ble_eq_true rfl⟩) (fun r_3 w_3 => ?_)
        rcases w_3 with ⟨rfl, w_3⟩ | ⟨rfl, w_3⟩
        · have w_3 : (0 : Int) ≤ 1 := w_3
          refine lv_if_eq (tgt := 51) hx hb dX4_creditHeavy_34 (by decide) (fun c_4 => ?_) (fun c_4 => ?_)
          · exact absurd c_4 (by decide)
          · refine lv_aload_n hx hb dX4_creditHeavy_37 rfl (lv_at hl 2 rfl) ?_
            refine va_get (D := (dC, dI)) (ci := 4) (v := .ref w_) (C := RX4) (T := TX4) (N := 9) hx hb hts hi_4 hown hK hP 0 rfl rfl 5 (by decide) hf_42 (fun _ h9 => h9) rfl dX4_creditHeavy_38 ?_
            refine lv_iload hx hb dX4_creditHeavy_41 (lv_at hl 0 rfl) ?_
            refine lv_dup2_11 hx hb dX4_creditHeavy_43 rfl rfl ?_
            refine va_iald hx hb hK hP 6 0 rfl rfl (ki_in (om_10 LP1_h0) (om_1 a1 i_1)) dX4_creditHeavy_44 ?_
            refine lv_topi (fun y_5 ey_5 => ?_)
            have j_5 : y_5.toInt = (gw i.toNatClampNeg).toInt := congrArg Int32.toInt ey_5
            refine lv_iconst (v := 1) hx hb dX4_creditHeavy_45 (by decide) ?_
            refine lv_iadd hx hb dX4_creditHeavy_46 ?_
            refine lv_topi (fun y_6 ey_6 => ?_)
            refine va_iast hx hb hK hP hD hS 6 0 rfl rfl (ki_in (om_10 LP1_h0) (om_1 a1 i_1)) dX4_creditHeavy_47 (fun H locs hP hD hS => ?_)
            obtain ⟨hP, hD⟩ := kx_re (w2 := [kx_4 m_ q_row q_t t_ h0 k0 w_ z_ slots old, kx_0 q_row q_cell len, kx_a q_cell cyI 160 f, kx_1 t_ t_k t_o tk mo, kx_a t_k cyI 160 fk, kx_a t_o cyI 160 fq, kx_a w_ cyI 160 (upd gw i.toNatClampNeg y_6)]) hP hD rfl
            refine lv_iconst (v := 1) hx hb dX4_creditHeavy_48 (by decide) ?_
            refine lv_istore (lv' := [(4, .int 1), (5, .int i), (0, .ref m_), (1, .int p0), (2, .int p1), (3, .int p2)]) hx hb dX4_creditHeavy_49 hl (by decide) rfl (fun ls hl => ?_)
            obtain ⟨x_7, ex_7⟩ : ∃ y : Int32, y = i + 1 := ⟨_, rfl⟩
            have i_7 : x_7.toInt = i.toInt + 1 := ki_add ex_7 rfl rfl (om_13 LP1_h0) (om_3 a1 i_1)
            refine lv_iinc (v := x_7) (lv' := [(5, .int x_7), (4, .int 1), (0, .ref m_), (1, .int p0), (2, .int p1), (3, .int p2)]) hx hb dX4_creditHeavy_51 hl (k := 1) rfl (by rw [ex_7]; rfl) (by decide) rfl (fun ls hl => ?_)
            refine lv_goto (tgt := 6) hx hb dX4_creditHeavy_54 (by decide) ?_
            have k_8 : (1 : Int32).toInt = 1 := rfl
            exact ih1 x_7 1 (upd gw i.toNatClampNeg y_6) (om_34 LP1_h0 i_7) (Or.inr rfl) (om_mu hn1 (om_5 i_7) (om_6 i_1)) _ _ hP hD hS ls (lv_sub hl [0, 1, 2, 3, 4, 5] rfl)
        · have w_3 : (0 : Int) ≤ 1 := w_3
          refine lv_if_eq (tgt := 51) hx hb dX4_creditHeavy_34 (by decide) (fun c_9 => ?_) (fun c_9 => ?_)
          · obtain ⟨x_10, ex_10⟩ : ∃ y : Int32, y = i + 1 := ⟨_, rfl⟩
            have i_10 : x_10.toInt = i.toInt + 1 := ki_add ex_10 rfl rfl (om_13 LP1_h0) (om_3 a1 i_1)
            refine lv_iinc (v := x_10) (lv' := [(5, .int x_10), (4, .int so), (0, .ref m_), (1, .int p0), (2, .int p1), (3, .int p2)]) hx hb dX4_creditHeavy_51 hl (k := 0) rfl (by rw [ex_10]; rfl) (by decide) rfl (fun ls hl => ?_)
            refine lv_goto (tgt := 6) hx hb dX4_creditHeavy_54 (by decide) ?_
            exact ih1 x_10 so gw (om_34 LP1_h0 i_10) LP1_h1 (om_mu hn1 (om_5 i_10) (om_6 i_1)) _ _ hP hD hS ls (lv_sub hl [0, 1, 2, 3, 4, 5] rfl)
          · exact absurd c_9 (by decide)
  have k_11 : (0 : Int32).toInt = 0 := rfl
  have k_12 : (0 : Int32).toInt = 0 := rfl
  exact LP1 ((len.toInt - 0 : Int).toNat + 1) 0 0 fw om_35 (Or.inl rfl) (Nat.lt_succ_self _) _ _ hP hD hS ls (lv_sub hl [0, 1, 2, 3, 4, 5] rfl)

set_option maxHeartbeats 4000000 in
set_option maxRecDepth 100000 in
theorem c_X4_kindOfMostWins (l : Launch) (dC : Nat → ClassId) (dI : Nat → Nat → Nat) (m_ : Nat) (q_row : Nat) (q_t : Nat) (t_ : Nat) (h0 : Nat) (k0 : Nat) (w_ : Nat) (z_ : Nat) (slots : Int32) (old : Int32) (q_cell : Nat) (cyI : ClassId) (len : Int32) (f : Nat → Int32) (fw : Nat → Int32) (a0 : 0 ≤ len.toInt) (a1 : len.toInt ≤ 160) : Met l yX4_kindOfMostWins wsX4_kindOfMostWins ({ frames := 0, cells := 0, slots := 0, locals := 0 }) (va_Pc [.ref m_] (fun U => va_P (dC, dI) vwCl [kx_4 m_ q_row q_t t_ h0 k0 w_ z_ slots old, kx_0 q_row q_cell len, kx_a q_cell cyI 160 f, kx_a w_ cyI 160 fw] U.heap ∧ va_K (dC, dI) vwCl [(cyI, .int)] U)) (vp_Si (fun r : Int32 => (r.toInt = -1 ∨ (0 ≤ r.toInt ∧ r.toInt < len.toInt)))) 0 0 (fun _ => False) := by
  refine kx_stS (ws := wsX4_kindOfMostWins) (cc := cX4_kindOfMostWins) (maxL := 5) (ret := (some .int)) (by decide) rfl (Nat.le_of_ble_eq_true rfl) ?_
  intro p e s m below meth c ls hx hb hr hlocks hts hown hml hP hK hl
  have hown : s.vm.findClass RX4 = some m.cls := hown
  have hl : lv_has ls 5 [(0, .ref m_)] := hl
  have hf_12 := hts (.fieldLink RX4 12 "MajorityIndex" "row" "LMajorityIndex$Row;") (List.mem_of_getElem? (i := 1) rfl)
  have hi_4 : ∀ w ∈ u_ws RX4 TX4 9, w ∈ wsX4_kindOfMostWins := fun w h => List.mem_cons_of_mem _ (List.mem_append_left _ (List.mem_append_right _ h))
  have hf_57 := hts (.fieldLink RX4 57 "MajorityIndex$Row" "length" "I") (List.mem_of_getElem? (i := 2) rfl)
  have hi_0 : ∀ w ∈ u_ws RX0 TX0 2, w ∈ wsX4_kindOfMostWins := fun w h => List.mem_cons_of_mem _ (List.mem_append_right _ h)
  have hf_42 := hts (.fieldLink RX4 42 "MajorityIndex" "wins" "[I") (List.mem_of_getElem? (i := 3) rfl)
  have hf_110 := hts (.fieldLink RX4 110 "MajorityIndex$Row" "cell" "[I") (List.mem_of_getElem? (i := 4) rfl)
  refine lv_iconst (v := (-1)) hx hb dX4_kindOfMostWins_0 (by decide) ?_
  refine lv_istore_n (lv' := [(1, .int (-1)), (0, .ref m_)]) hx hb dX4_kindOfMostWins_1 rfl hl (by decide) rfl (fun ls hl => ?_)
  refine lv_iconst (v := 0) hx hb dX4_kindOfMostWins_2 (by decide) ?_
  refine lv_istore_n (lv' := [(2, .int 0), (1, .int (-1)), (0, .ref m_)]) hx hb dX4_kindOfMostWins_3 rfl hl (by decide) rfl (fun ls hl => ?_)
  refine lv_iconst (v := 0) hx hb dX4_kindOfMostWins_4 (by decide) ?_
  refine lv_istore_n (lv' := [(3, .int 0), (2, .int 0), (1, .int (-1)), (0, .ref m_)]) hx hb dX4_kindOfMostWins_5 rfl hl (by decide) rfl (fun ls hl => ?_)
  have LP1 : ∀ (n : Nat) (i : Int32) (best : Int32) (most : Int32), (0 ≤ i.toInt) → (best.toInt = -1 ∨ (0 ≤ best.toInt ∧ best.toInt < len.toInt)) → (len.toInt - i.toInt).toNat < n → ∀ (ls : Array Slot), lv_has ls 5 [(3, .int i), (2, .int most), (1, .int best), (0, .ref m_)] → W p l e (headSpec wsX4_kindOfMostWins ({ frames := 0, cells := 0, slots := 0, locals := 0 })).room s m ([.ref m_] : List Value).toArray below meth c s.heap [] 0 0 (MQ below (vp_Si (fun r : Int32 => (r.toInt = -1 ∨ (0 ≤ r.toInt ∧ r.toInt < len.toInt)))) ([.ref m_] : List Value).toArray s 0 0 (fun _ => False)) (F0 m 6 ls []) := by
    intro n
    induction n with
    | zero => intro i best most LP1_h0 LP1_h1 hn; exact absurd hn (Nat.not_lt_zero _)
    | succ n ih1 =>
      intro i best most LP1_h0 LP1_h1 hn1 ls hl
      refine lv_iload_n hx hb dX4_kindOfMostWins_6 rfl (lv_at hl 0 rfl) ?_
      refine lv_aload_n hx hb dX4_kindOfMostWins_7 rfl (lv_at hl 3 rfl) ?_
      refine va_get (D := (dC, dI)) (ci := 4) (v := .ref q_row) (C := RX4) (T := TX4) (N := 9) hx hb hts hi_4 hown hK hP 0 rfl rfl 0 (by decide) hf_12 (fun _ h9 => h9) rfl dX4_kindOfMostWins_8 ?_
      refine va_get (D := (dC, dI)) (ci := 0) (v := .int len) (C := RX0) (T := TX0) (N := 2) hx hb hts hi_0 hown hK hP 1 rfl rfl 1 (by decide) hf_57 (fun _ h9 => h9) rfl dX4_kindOfMostWins_11 ?_
      refine lv_icmp_ge (tgt := 90) hx hb dX4_kindOfMostWins_14 (by decide) (fun c_1 => ?_) (fun c_1 => ?_)
      · have i_1 : len.toInt ≤ i.toInt := kc_le c_1
        refine lv_iload_n hx hb dX4_kindOfMostWins_90 rfl (lv_at hl 2 rfl) ?_
        exact W.iret (v := best) hx hb hr (hlocks := hlocks) (fun t ht hW => ⟨best, rfl, LP1_h1, ht⟩) (fun q hq => by cases hq) dX4_kindOfMostWins_91
      · have i_1 : i.toInt < len.toInt := kc_nle c_1
        refine lv_iload_n hx hb dX4_kindOfMostWins_17 rfl (lv_at hl 2 rfl) ?_
        refine lv_iconst (v := (-1)) hx hb dX4_kindOfMostWins_18 (by decide) ?_
        refine lv_icmp_eq (tgt := 57) hx hb dX4_kindOfMostWins_19 (by decide) (fun c_2 => ?_) (fun c_2 => ?_)
        · have i_2 : best.toInt = (-1) := kc_eq c_2
          refine lv_iconst (v := 0) hx hb dX4_kindOfMostWins_57 (by decide) ?_
          refine lv_istore (lv' := [(4, .int 0), (3, .int i), (2, .int most), (1, .int best), (0, .ref m_)]) hx hb dX4_kindOfMostWins_58 hl (by decide) rfl (fun ls hl => ?_)
          refine lv_aload_n hx hb dX4_kindOfMostWins_60 rfl (lv_at hl 4 rfl) ?_
          refine va_get (D := (dC, dI)) (ci := 4) (v := .ref w_) (C := RX4) (T := TX4) (N := 9) hx hb hts hi_4 hown hK hP 0 rfl rfl 5 (by decide) hf_42 (fun _ h9 => h9) rfl dX4_kindOfMostWins_61 ?_
          refine lv_iload_n hx hb dX4_kindOfMostWins_64 rfl (lv_at hl 1 rfl) ?_
          refine va_iald hx hb hK hP 3 0 rfl rfl (ki_in (om_10 LP1_h0) (om_1 a1 i_1)) dX4_kindOfMostWins_65 ?_
          refine lv_topi (fun y_3 ey_3 => ?_)
          have j_3 : y_3.toInt = (fw i.toNatClampNeg).toInt := congrArg Int32.toInt ey_3
          refine lv_iload_n hx hb dX4_kindOfMostWins_66 rfl (lv_at hl 2 rfl) ?_
          refine lv_icmp_gt (tgt := 75) hx hb dX4_kindOfMostWins_67 (by decide) (fun c_4 => ?_) (fun c_4 => ?_)
          · have i_4 : most.toInt < y_3.toInt := kc_lt c_4
            refine lv_iload_n hx hb dX4_kindOfMostWins_75 rfl (lv_at hl 1 rfl) ?_
            refine lv_istore_n (lv' := [(1, .int i), (4, .int 0), (3, .int i), (2, .int most), (0, .ref m_)]) hx hb dX4_kindOfMostWins_76 rfl hl (by decide) rfl (fun ls hl => ?_)
            refine lv_aload_n hx hb dX4_kindOfMostWins_77 rfl (lv_at hl 4 rfl) ?_
            refine va_get (D := (dC, dI)) (ci := 4) (v := .ref w_) (C := RX4) (T := TX4) (N := 9) hx hb hts hi_4 hown hK hP 0 rfl rfl 5 (by decide) hf_42 (fun _ h9 => h9) rfl dX4_kindOfMostWins_78 ?_
            refine lv_iload_n hx hb dX4_kindOfMostWins_81 rfl (lv_at hl 2 rfl) ?_
            refine va_iald hx hb hK hP 3 0 rfl rfl (ki_in (om_10 LP1_h0) (om_1 a1 i_1)) dX4_kindOfMostWins_82 ?_
            refine lv_topi (fun y_5 ey_5 => ?_)
            have j_5 : y_5.toInt = (fw i.toNatClampNeg).toInt := congrArg Int32.toInt ey_5
            refine lv_istore_n (lv' := [(2, .int y_5), (1, .int i), (4, .int 0), (3, .int i), (0, .ref m_)]) hx hb dX4_kindOfMostWins_83 rfl hl (by decide) rfl (fun ls hl => ?_)
            obtain ⟨x_6, ex_6⟩ : ∃ y : Int32, y = i + 1 := ⟨_, rfl⟩
            have i_6 : x_6.toInt = i.toInt + 1 := ki_add ex_6 rfl rfl (om_13 LP1_h0) (om_3 a1 i_1)
            refine lv_iinc (v := x_6) (lv' := [(3, .int x_6), (2, .int y_5), (1, .int i), (4, .int 0), (0, .ref m_)]) hx hb dX4_kindOfMostWins_84 hl (k := 3) rfl (by rw [ex_6]; rfl) (by decide) rfl (fun ls hl => ?_)
            refine lv_goto (tgt := 6) hx hb dX4_kindOfMostWins_87 (by decide) ?_
            exact ih1 x_6 i y_5 (om_34 LP1_h0 i_6) (by omega) (om_mu hn1 (om_5 i_6) (om_6 i_1)) ls (lv_sub hl [0, 1, 2, 4] rfl)
          · have i_4 : y_3.toInt ≤ most.toInt := kc_nlt c_4
            refine lv_iload hx hb dX4_kindOfMostWins_70 (lv_at hl 0 rfl) ?_
            refine lv_if_eq (tgt := 84) hx hb dX4_kindOfMostWins_72 (by decide) (fun c_7 => ?_) (fun c_7 => ?_)
            · obtain ⟨x_8, ex_8⟩ : ∃ y : Int32, y = i + 1 := ⟨_, rfl⟩
              have i_8 : x_8.toInt = i.toInt + 1 := ki_add ex_8 rfl rfl (om_13 LP1_h0) (om_3 a1 i_1)
              refine lv_iinc (v := x_8) (lv' := [(3, .int x_8), (4, .int 0), (2, .int most), (1, .int best), (0, .ref m_)]) hx hb dX4_kindOfMostWins_84 hl (k := 1) rfl (by rw [ex_8]; rfl) (by decide) rfl (fun ls hl => ?_)
              refine lv_goto (tgt := 6) hx hb dX4_kindOfMostWins_87 (by decide) ?_
              exact ih1 x_8 best most (om_34 LP1_h0 i_8) (by omega) (om_mu hn1 (om_5 i_8) (om_6 i_1)) ls (lv_sub hl [0, 2, 3, 4] rfl)
            · exact absurd c_7 (by decide)
        · have i_2 : ¬ best.toInt = (-1) := kc_ne c_2
          refine lv_aload_n hx hb dX4_kindOfMostWins_22 rfl (lv_at hl 3 rfl) ?_
          refine va_get (D := (dC, dI)) (ci := 4) (v := .ref w_) (C := RX4) (T := TX4) (N := 9) hx hb hts hi_4 hown hK hP 0 rfl rfl 5 (by decide) hf_42 (fun _ h9 => h9) rfl dX4_kindOfMostWins_23 ?_
          refine lv_iload_n hx hb dX4_kindOfMostWins_26 rfl (lv_at hl 0 rfl) ?_
          refine va_iald hx hb hK hP 3 0 rfl rfl (ki_in (om_10 LP1_h0) (om_1 a1 i_1)) dX4_kindOfMostWins_27 ?_
          refine lv_topi (fun y_9 ey_9 => ?_)
          have j_9 : y_9.toInt = (fw i.toNatClampNeg).toInt := congrArg Int32.toInt ey_9
          refine lv_iload_n hx hb dX4_kindOfMostWins_28 rfl (lv_at hl 1 rfl) ?_
          refine lv_icmp_ne (tgt := 57) hx hb dX4_kindOfMostWins_29 (by decide) (fun c_10 => ?_) (fun c_10 => ?_)
          · have i_10 : ¬ y_9.toInt = most.toInt := kc_ne c_10
            refine lv_iconst (v := 0) hx hb dX4_kindOfMostWins_57 (by decide) ?_
            refine lv_istore (lv' := [(4, .int 0), (3, .int i), (2, .int most), (1, .int best), (0, .ref m_)]) hx hb dX4_kindOfMostWins_58 hl (by decide) rfl (fun ls hl => ?_)
            refine lv_aload_n hx hb dX4_kindOfMostWins_60 rfl (lv_at hl 4 rfl) ?_
            refine va_get (D := (dC, dI)) (ci := 4) (v := .ref w_) (C := RX4) (T := TX4) (N := 9) hx hb hts hi_4 hown hK hP 0 rfl rfl 5 (by decide) hf_42 (fun _ h9 => h9) rfl dX4_kindOfMostWins_61 ?_
            refine lv_iload_n hx hb dX4_kindOfMostWins_64 rfl (lv_at hl 1 rfl) ?_
            refine va_iald hx hb hK hP 3 0 rfl rfl (ki_in (om_10 LP1_h0) (om_1 a1 i_1)) dX4_kindOfMostWins_65 ?_
            refine lv_topi (fun y_11 ey_11 => ?_)
            have j_11 : y_11.toInt = (fw i.toNatClampNeg).toInt := congrArg Int32.toInt ey_11
            refine lv_iload_n hx hb dX4_kindOfMostWins_66 rfl (lv_at hl 2 rfl) ?_
            refine lv_icmp_gt (tgt := 75) hx hb dX4_kindOfMostWins_67 (by decide) (fun c_12 => ?_) (fun c_12 => ?_)
            · have i_12 : most.toInt < y_11.toInt := kc_lt c_12
              refine lv_iload_n hx hb dX4_kindOfMostWins_75 rfl (lv_at hl 1 rfl) ?_
              refine lv_istore_n (lv' := [(1, .int i), (4, .int 0), (3, .int i), (2, .int most), (0, .ref m_)]) hx hb dX4_kindOfMostWins_76 rfl hl (by decide) rfl (fun ls hl => ?_)
              refine lv_aload_n hx hb dX4_kindOfMostWins_77 rfl (lv_at hl 4 rfl) ?_
              refine va_get (D := (dC, dI)) (ci := 4) (v := .ref w_) (C := RX4) (T := TX4) (N := 9) hx hb hts hi_4 hown hK hP 0 rfl rfl 5 (by decide) hf_42 (fun _ h9 => h9) rfl dX4_kindOfMostWins_78 ?_
              refine lv_iload_n hx hb dX4_kindOfMostWins_81 rfl (lv_at hl 2 rfl) ?_
              refine va_iald hx hb hK hP 3 0 rfl rfl (ki_in (om_10 LP1_h0) (om_1 a1 i_1)) dX4_kindOfMostWins_82 ?_
              refine lv_topi (fun y_13 ey_13 => ?_)
              have j_13 : y_13.toInt = (fw i.toNatClampNeg).toInt := congrArg Int32.toInt ey_13
              refine lv_istore_n (lv' := [(2, .int y_13), (1, .int i), (4, .int 0), (3, .int i), (0, .ref m_)]) hx hb dX4_kindOfMostWins_83 rfl hl (by decide) rfl (fun ls hl => ?_)
              obtain ⟨x_14, ex_14⟩ : ∃ y : Int32, y = i + 1 := ⟨_, rfl⟩
              have i_14 : x_14.toInt = i.toInt + 1 := ki_add ex_14 rfl rfl (om_13 LP1_h0) (om_3 a1 i_1)
              refine lv_iinc (v := x_14) (lv' := [(3, .int x_14), (2, .int y_13), (1, .int i), (4, .int 0), (0, .ref m_)]) hx hb dX4_kindOfMostWins_84 hl (k := 3) rfl (by rw [ex_14]; rfl) (by decide) rfl (fun ls hl => ?_)
              refine lv_goto (tgt := 6) hx hb dX4_kindOfMostWins_87 (by decide) ?_
              exact ih1 x_14 i y_13 (om_34 LP1_h0 i_14) (by omega) (om_mu hn1 (om_5 i_14) (om_6 i_1)) ls (lv_sub hl [0, 1, 2, 4] rfl)
            · have i_12 : y_11.toInt ≤ most.toInt := kc_nlt c_12
              refine lv_iload hx hb dX4_kindOfMostWins_70 (lv_at hl 0 rfl) ?_
              refine lv_if_eq (tgt := 84) hx hb dX4_kindOfMostWins_72 (by decide) (fun c_15 => ?_) (fun c_15 => ?_)
              · obtain ⟨x_16, ex_16⟩ : ∃ y : Int32, y = i + 1 := ⟨_, rfl⟩
                have i_16 : x_16.toInt = i.toInt + 1 := ki_add ex_16 rfl rfl (om_13 LP1_h0) (om_3 a1 i_1)
                refine lv_iinc (v := x_16) (lv' := [(3, .int x_16), (4, .int 0), (2, .int most), (1, .int best), (0, .ref m_)]) hx hb dX4_kindOfMostWins_84 hl (k := 1) rfl (by rw [ex_16]; rfl) (by decide) rfl (fun ls hl => ?_)
                refine lv_goto (tgt := 6) hx hb dX4_kindOfMostWins_87 (by decide) ?_
                exact ih1 x_16 best most (om_34 LP1_h0 i_16) (by omega) (om_mu hn1 (om_5 i_16) (om_6 i_1)) ls (lv_sub hl [0, 2, 3, 4] rfl)
              · exact absurd c_15 (by decide)
          · have i_10 : y_9.toInt = most.toInt := kc_eq c_10
            refine lv_aload_n hx hb dX4_kindOfMostWins_32 rfl (lv_at hl 3 rfl) ?_
            refine va_get (D := (dC, dI)) (ci := 4) (v := .ref q_row) (C := RX4) (T := TX4) (N := 9) hx hb hts hi_4 hown hK hP 0 rfl rfl 0 (by decide) hf_12 (fun _ h9 => h9) rfl dX4_kindOfMostWins_33 ?_
            refine va_get (D := (dC, dI)) (ci := 0) (v := .ref q_cell) (C := RX0) (T := TX0) (N := 2) hx hb hts hi_0 hown hK hP 1 rfl rfl 0 (by decide) hf_110 (fun _ h9 => h9) rfl dX4_kindOfMostWins_36 ?_
            refine lv_iload_n hx hb dX4_kindOfMostWins_39 rfl (lv_at hl 0 rfl) ?_
            refine va_iald hx hb hK hP 2 0 rfl rfl (ki_in (om_10 LP1_h0) (om_1 a1 i_1)) dX4_kindOfMostWins_40 ?_
            refine lv_topi (fun y_17 ey_17 => ?_)
            have j_17 : y_17.toInt = (f i.toNatClampNeg).toInt := congrArg Int32.toInt ey_17
            refine lv_aload_n hx hb dX4_kindOfMostWins_41 rfl (lv_at hl 3 rfl) ?_
            refine va_get (D := (dC, dI)) (ci := 4) (v := .ref q_row) (C := RX4) (T := TX4) (N := 9) hx hb hts hi_4 hown hK hP 0 rfl rfl 0 (by decide) hf_12 (fun _ h9 => h9) rfl dX4_kindOfMostWins_42 ?_
            refine va_get (D := (dC, dI)) (ci := 0) (v := .ref q_cell) (C := RX0) (T := TX0) (N := 2) hx hb hts hi_0 hown hK hP 1 rfl rfl 0 (by decide) hf_110 (fun _ h9 => h9) rfl dX4_kindOfMostWins_45 ?_
            refine lv_iload_n hx hb dX4_kindOfMostWins_48 rfl (lv_at hl 2 rfl) ?_
            refine va_iald hx hb hK hP 2 0 rfl rfl (ki_in (by omega) (by omega)) dX4_kindOfMostWins_49 ?_
            refine lv_topi (fun y_18 ey_18 => ?_)
            have j_18 : y_18.toInt = (f best.toNatClampNeg).toInt := congrArg Int32.toInt ey_18
            refine lv_icmp_ge (tgt := 57) hx hb dX4_kindOfMostWins_50 (by decide) (fun c_19 => ?_) (fun c_19 => ?_)
            · have i_19 : y_18.toInt ≤ y_17.toInt := kc_le c_19
              refine lv_iconst (v := 0) hx hb dX4_kindOfMostWins_57 (by decide) ?_
              refine lv_istore (lv' := [(4, .int 0), (3, .int i), (2, .int most), (1, .int best), (0, .ref m_)]) hx hb dX4_kindOfMostWins_58 hl (by decide) rfl (fun ls hl => ?_)
              refine lv_aload_n hx hb dX4_kindOfMostWins_60 rfl (lv_at hl 4 rfl) ?_
              refine va_get (D := (dC, dI)) (ci := 4) (v := .ref w_) (C := RX4) (T := TX4) (N := 9) hx hb hts hi_4 hown hK hP 0 rfl rfl 5 (by decide) hf_42 (fun _ h9 => h9) rfl dX4_kindOfMostWins_61 ?_
              refine lv_iload_n hx hb dX4_kindOfMostWins_64 rfl (lv_at hl 1 rfl) ?_
              refine va_iald hx hb hK hP 3 0 rfl rfl (ki_in (om_10 LP1_h0) (om_1 a1 i_1)) dX4_kindOfMostWins_65 ?_
              refine lv_topi (fun y_20 ey_20 => ?_)
              have j_20 : y_20.toInt = (fw i.toNatClampNeg).toInt := congrArg Int32.toInt ey_20
              refine lv_iload_n hx hb dX4_kindOfMostWins_66 rfl (lv_at hl 2 rfl) ?_
              refine lv_icmp_gt (tgt := 75) hx hb dX4_kindOfMostWins_67 (by decide) (fun c_21 => ?_) (fun c_21 => ?_)
              · have i_21 : most.toInt < y_20.toInt := kc_lt c_21
                exfalso; omega
              · have i_21 : y_20.toInt ≤ most.toInt := kc_nlt c_21
                refine lv_iload hx hb dX4_kindOfMostWins_70 (lv_at hl 0 rfl) ?_
                refine lv_if_eq (tgt := 84) hx hb dX4_kindOfMostWins_72 (by decide) (fun c_22 => ?_) (fun c_22 => ?_)
                · obtain ⟨x_23, ex_23⟩ : ∃ y : Int32, y = i + 1 := ⟨_, rfl⟩
                  have i_23 : x_23.toInt = i.toInt + 1 := ki_add ex_23 rfl rfl (om_13 LP1_h0) (om_3 a1 i_1)
                  refine lv_iinc (v := x_23) (lv' := [(3, .int x_23), (4, .int 0), (2, .int most), (1, .int best), (0, .ref m_)]) hx hb dX4_kindOfMostWins_84 hl (k := 1) rfl (by rw [ex_23]; rfl) (by decide) rfl (fun ls hl => ?_)
                  refine lv_goto (tgt := 6) hx hb dX4_kindOfMostWins_87 (by decide) ?_
                  exact ih1 x_23 best most (om_34 LP1_h0 i_23) (by omega) (om_mu hn1 (om_5 i_23) (om_6 i_1)) ls (lv_sub hl [0, 2, 3, 4] rfl)
                · exact absurd c_22 (by decide)
            · have i_19 : y_17.toInt < y_18.toInt := kc_nle c_19
              refine lv_iconst (v := 1) hx hb dX4_kindOfMostWins_53 (by decide) ?_
              refine lv_goto (tgt := 58) hx hb dX4_kindOfMostWins_54 (by decide) ?_
              refine lv_istore (lv' := [(4, .int 1), (3, .int i), (2, .int most), (1, .int best), (0, .ref m_)]) hx hb dX4_kindOfMostWins_58 hl (by decide) rfl (fun ls hl => ?_)
              refine lv_aload_n hx hb dX4_kindOfMostWins_60 rfl (lv_at hl 4 rfl) ?_
              refine va_get (D := (dC, dI)) (ci := 4) (v := .ref w_) (C := RX4) (T := TX4) (N := 9) hx hb hts hi_4 hown hK hP 0 rfl rfl 5 (by decide) hf_42 (fun _ h9 => h9) rfl dX4_kindOfMostWins_61 ?_
              refine lv_iload_n hx hb dX4_kindOfMostWins_64 rfl (lv_at hl 1 rfl) ?_
              refine va_iald hx hb hK hP 3 0 rfl rfl (ki_in (om_10 LP1_h0) (om_1 a1 i_1)) dX4_kindOfMostWins_65 ?_
              refine lv_topi (fun y_24 ey_24 => ?_)
              have j_24 : y_24.toInt = (fw i.toNatClampNeg).toInt := congrArg Int32.toInt ey_24
              refine lv_iload_n hx hb dX4_kindOfMostWins_66 rfl (lv_at hl 2 rfl) ?_
              refine lv_icmp_gt (tgt := 75) hx hb dX4_kindOfMostWins_67 (by decide) (fun c_25 => ?_) (fun c_25 => ?_)
              · have i_25 : most.toInt < y_24.toInt := kc_lt c_25
                exfalso; omega
              · have i_25 : y_24.toInt ≤ most.toInt := kc_nlt c_25
                refine lv_iload hx hb dX4_kindOfMostWins_70 (lv_at hl 0 rfl) ?_
                refine lv_if_eq (tgt := 84) hx hb dX4_kindOfMostWins_72 (by decide) (fun c_26 => ?_) (fun c_26 => ?_)
                · exact absurd c_26 (by decide)
                · refine lv_iload_n hx hb dX4_kindOfMostWins_75 rfl (lv_at hl 1 rfl) ?_
                  refine lv_istore_n (lv' := [(1, .int i), (4, .int 1), (3, .int i), (2, .int most), (0, .ref m_)]) hx hb dX4_kindOfMostWins_76 rfl hl (by decide) rfl (fun ls hl => ?_)
                  refine lv_aload_n hx hb dX4_kindOfMostWins_77 rfl (lv_at hl 4 rfl) ?_
                  refine va_get (D := (dC, dI)) (ci := 4) (v := .ref w_) (C := RX4) (T := TX4) (N := 9) hx hb hts hi_4 hown hK hP 0 rfl rfl 5 (by decide) hf_42 (fun _ h9 => h9) rfl dX4_kindOfMostWins_78 ?_
                  refine lv_iload_n hx hb dX4_kindOfMostWins_81 rfl (lv_at hl 2 rfl) ?_
                  refine va_iald hx hb hK hP 3 0 rfl rfl (ki_in (om_10 LP1_h0) (om_1 a1 i_1)) dX4_kindOfMostWins_82 ?_
                  refine lv_topi (fun y_27 ey_27 => ?_)
                  have j_27 : y_27.toInt = (fw i.toNatClampNeg).toInt := congrArg Int32.toInt ey_27
                  refine lv_istore_n (lv' := [(2, .int y_27), (1, .int i), (4, .int 1), (3, .int i), (0, .ref m_)]) hx hb dX4_kindOfMostWins_83 rfl hl (by decide) rfl (fun ls hl => ?_)
                  obtain ⟨x_28, ex_28⟩ : ∃ y : Int32, y = i + 1 := ⟨_, rfl⟩
                  have i_28 : x_28.toInt = i.toInt + 1 := ki_add ex_28 rfl rfl (om_13 LP1_h0) (om_3 a1 i_1)
                  refine lv_iinc (v := x_28) (lv' := [(3, .int x_28), (2, .int y_27), (1, .int i), (4, .int 1), (0, .ref m_)]) hx hb dX4_kindOfMostWins_84 hl (k := 3) rfl (by rw [ex_28]; rfl) (by decide) rfl (fun ls hl => ?_)
                  refine lv_goto (tgt := 6) hx hb dX4_kindOfMostWins_87 (by decide) ?_
                  exact ih1 x_28 i y_27 (om_34 LP1_h0 i_28) (by omega) (om_mu hn1 (om_5 i_28) (om_6 i_1)) ls (lv_sub hl [0, 1, 2, 4] rfl)
  have k_29 : (0 : Int32).toInt = 0 := rfl
  have k_30 : ((-1) : Int32).toInt = -1 := rfl
  have k_31 : (0 : Int32).toInt = 0 := rfl
  exact LP1 ((len.toInt - 0 : Int).toNat + 1) 0 (-1) 0 om_35 (by omega) (Nat.lt_succ_self _) ls (lv_sub hl [0, 1, 2, 3] rfl)

set_option maxHeartbeats 4000000 in
set_option maxRecDepth 100000 in
theorem c_X4_slideWindow (l : Launch) (dC : Nat → ClassId) (dI : Nat → Nat → Nat) (m_ : Nat) (q_row : Nat) (q_t : Nat) (t_ : Nat) (h0 : Nat) (k0 : Nat) (w_ : Nat) (z_ : Nat) (slots : Int32) (old : Int32) (q_cell : Nat) (cyI : ClassId) (len : Int32) (f : Nat → Int32) (t_k : Nat) (t_o : Nat) (tk : Int32) (mo : Int32) (fk : Nat → Int32) (fq : Nat → Int32) (fw : Nat → Int32) (p0 : Int32) (p1 : Int32) (p2 : Int32) (sz : Nat) (a0 : 0 ≤ len.toInt) (a1 : len.toInt ≤ 160) (b0 : 1 ≤ p0.toInt) (b1 : p0.toInt ≤ len.toInt) : kx_MQ l (dC, dI) yX4_slideWindow wsX4_slideWindow ({ frames := 2, cells := 0, slots := 0, locals := 90 }) [.ref m_, .int p0, .int p1, .int p2] [kx_4 m_ q_row q_t t_ h0 k0 w_ z_ slots old, kx_0 q_row q_cell len, kx_a q_cell cyI 160 f, kx_1 t_ t_k t_o tk mo, kx_a t_k cyI 160 fk, kx_a t_o cyI 160 fq, kx_a w_ cyI 160 fw] [(cyI, .int)] sz (fun A => va_Qi (fun (r : Int32) (u : Int32 × Int32 × (Nat → Int32) × (Nat → Int32) × (Nat → Int32)) => True) (fun (u : Int32 × Int32 × (Nat → Int32) × (Nat → Int32) × (Nat → Int32)) (t : State) => va_P (dC, dI) vwCl [kx_4 m_ q_row q_t t_ h0 k0 w_ z_ slots old, kx_0 q_row q_cell len, kx_a q_cell cyI 160 f, kx_1 t_ t_k t_o u.1 u.2.1, kx_a t_k cyI 160 u.2.2.1, kx_a t_o cyI 160 u.2.2.2.1, kx_a w_ cyI 160 u.2.2.2.2] t.heap ∧ va_K (dC, dI) vwCl [(cyI, .int)] t ∧ va_D A [kx_4 m_ q_row q_t t_ h0 k0 w_ z_ slots old, kx_0 q_row q_cell len, kx_a q_cell cyI 160 f, kx_1 t_ t_k t_o u.1 u.2.1, kx_a t_k cyI 160 u.2.2.1, kx_a t_o cyI 160 u.2.2.2.1, kx_a w_ cyI 160 u.2.2.2.2]) A) := by
  refine kx_stQ (ws := wsX4_slideWindow) (cc := cX4_slideWindow) (maxL := 6) (ret := (some .int)) (by decide) rfl (Nat.le_of_ble_eq_true rfl) ?_
  intro p e s m below meth c A ls hx hb hr hlocks hts hown hml hA hS hP hK hD hl
  have hown : s.vm.findClass RX4 = some m.cls := hown
  have hl : lv_has ls 6 [(0, .ref m_), (1, .int p0), (2, .int p1), (3, .int p2)] := hl
  have hf_28 := hts (.fieldLink RX4 28 "MajorityIndex" "tally" "LMajorityIndex$Tally;") (List.mem_of_getElem? (i := 1) rfl)
  have hi_4 : ∀ w ∈ u_ws RX4 TX4 9, w ∈ wsX4_slideWindow := fun w h => List.mem_cons_of_mem _ (List.mem_append_left _ (List.mem_append_left _ (List.mem_append_right _ h)))
  have hf_12 := hts (.fieldLink RX4 12 "MajorityIndex" "row" "LMajorityIndex$Row;") (List.mem_of_getElem? (i := 2) rfl)
  have hf_42 := hts (.fieldLink RX4 42 "MajorityIndex" "wins" "[I") (List.mem_of_getElem? (i := 3) rfl)
  have hf_57 := hts (.fieldLink RX4 57 "MajorityIndex$Row" "length" "I") (List.mem_of_getElem? (i := 4) rfl)
  have hi_0 : ∀ w ∈ u_ws RX0 TX0 2, w ∈ wsX4_slideWindow := fun w h => List.mem_cons_of_mem _ (List.mem_append_left _ (List.mem_append_right _ h))
  refine lv_aload_n hx hb dX4_slideWindow_0 rfl (lv_at hl 0 rfl) ?_
  refine va_get (D := (dC, dI)) (ci := 4) (v := .ref t_) (C := RX4) (T := TX4) (N := 9) hx hb hts hi_4 hown hK hP 0 rfl rfl 2 (by decide) hf_28 (fun _ h9 => h9) rfl dX4_slideWindow_1 ?_
  refine lv_aload_n hx hb dX4_slideWindow_4 rfl (lv_at hl 0 rfl) ?_
  refine va_get (D := (dC, dI)) (ci := 4) (v := .ref q_row) (C := RX4) (T := TX4) (N := 9) hx hb hts hi_4 hown hK hP 0 rfl rfl 0 (by decide) hf_12 (fun _ h9 => h9) rfl dX4_slideWindow_5 ?_
  obtain ⟨hPc, hDc, hFc, hCc⟩ := kx_pre (wc := [kx_1 t_ t_k t_o tk mo, kx_a t_k cyI 160 fk, kx_0 q_row q_cell len, kx_a q_cell cyI 160 f]) hP hD hS hA [3, 4, 1, 2] (by decide) rfl
  have hKc := hK
  refine va_callv (va_runV (As := [.ref q_row]) (rest := []) ⟨hx, hb, hml, hown, hts⟩ (kx_un (c_X1_learn l dC dI t_ t_k t_o cyI tk mo fk q_row q_cell len f s.heap.size a0 a1)) (cwV 1 hts gX4_slideWindow_X1_learn rfl rfl rfl (by decide +kernel) ⟨Nat.le_of_ble_eq_true rfl, Nat.le_of_ble_eq_true rfl⟩) ⟨fun a U g mk q => by obtain ⟨q0, q1, qP, qK, qD⟩ := q; exact ⟨q0, q1, qP, va_K.moved (u := U) (U := U.calling g mk a) (Vm.Alike.refl U.vm) qK, qD⟩, kx_rc1 hKc hPc (q0 := 0) rfl, fun U hU hW => ⟨rfl, by rw [hU], by rw [hU]; exact hPc, va_K.moved hW.alike hKc, hDc.weaken (fun _ _ _ _ => trivial)⟩⟩ rfl rfl hl.1 rfl (lv_room (Nat.le_of_ble_eq_true rfl)) dX4_slideWindow_8 ⟨Nat.le_of_ble_eq_true rfl, Nat.le_of_ble_eq_true rfl⟩) hS (fun q _ h => hFc q h) hFc (fun u t H1 locs ht hvm w_1 hB hz1 hk1 hS => ?_)
  obtain ⟨o_2, rfl⟩ : ∃ z, z = u := ⟨_, rfl⟩
  obtain ⟨hP1, hK1, hD1⟩ := hB
  rw [ht] at hP1
  have hK1 := va_K.moved hvm.symm hK1
  obtain ⟨hP, hD⟩ := kx_join (w2 := [kx_4 m_ q_row q_t t_ h0 k0 w_ z_ slots old, kx_a t_o cyI 160 fq, kx_a w_ cyI 160 fw, kx_1 t_ t_k t_o tk mo, kx_a t_k cyI 160 o_2, kx_0 q_row q_cell len, kx_a q_cell cyI 160 f]) hP hD hP1 hD1 hk1 hFc [3, 4, 1, 2] [0, 5, 6] hCc rfl (by decide) (by decide)
  clear hP1 hD1 hK1 hk1 hz1 hFc hDc hPc hKc hCc
  generalize H1 = H at hP hS ⊢
  have w_1 : kindOk o_2 len.toInt := w_1
  refine lv_aload_n hx hb dX4_slideWindow_11 rfl (lv_at hl 0 rfl) ?_
  refine va_get (D := (dC, dI)) (ci := 4) (v := .ref t_) (C := RX4) (T := TX4) (N := 9) hx hb hts hi_4 hown hK hP 0 rfl rfl 2 (by decide) hf_28 (fun _ h9 => h9) rfl dX4_slideWindow_12 ?_
  obtain ⟨hPc, hDc, hFc, hCc⟩ := kx_pre (wc := [kx_1 t_ t_k t_o tk mo, kx_a t_o cyI 160 fq]) hP hD hS hA [3, 1] (by decide) rfl
  have hKc := hK
  refine va_callv (va_runV (As := []) (rest := []) ⟨hx, hb, hml, hown, hts⟩ (kx_un (c_X1_clear l dC dI t_ t_k t_o cyI tk mo fq H.size)) (cwV 0 hts gX4_slideWindow_X1_clear rfl rfl rfl (by decide +kernel) ⟨Nat.le_of_ble_eq_true rfl, Nat.le_of_ble_eq_true rfl⟩) ⟨fun a U g mk q => by obtain ⟨q0, q1, qP, qK, qD⟩ := q; exact ⟨q0, q1, qP, va_K.moved (u := U) (U := U.calling g mk a) (Vm.Alike.refl U.vm) qK, qD⟩, kx_rc1 hKc hPc (q0 := 0) rfl, fun U hU hW => ⟨rfl, by rw [hU], by rw [hU]; exact hPc, va_K.moved hW.alike hKc, hDc.weaken (fun _ _ _ _ => trivial)⟩⟩ rfl rfl hl.1 rfl (lv_room (Nat.le_of_ble_eq_true rfl)) dX4_slideWindow_15 ⟨Nat.le_of_ble_eq_true rfl, Nat.le_of_ble_eq_true rfl⟩) hS (fun q _ h => hFc q h) hFc (fun u t H1 locs ht hvm w_3 hB hz1 hk1 hS => ?_)
  obtain ⟨o_4, rfl⟩ : ∃ z, z = u := ⟨_, rfl⟩
  obtain ⟨hP1, hK1, hD1⟩ := hB
  rw [ht] at hP1
  have hK1 := va_K.moved hvm.symm hK1
  obtain ⟨hP, hD⟩ := kx_join (w2 := [kx_4 m_ q_row q_t t_ h0 k0 w_ z_ slots old, kx_a w_ cyI 160 fw, kx_a t_k cyI 160 o_2, kx_0 q_row q_cell len, kx_a q_cell cyI 160 f, kx_1 t_ t_k t_o 0 0, kx_a t_o cyI 160 o_4]) hP hD hP1 hD1 hk1 hFc [3, 1] [0, 2, 4, 5, 6] hCc rfl (by decide) (by decide)
  clear hP1 hD1 hK1 hk1 hz1 hFc hDc hPc hKc hCc
  generalize H1 = H at hP hS ⊢
  have w_3 : ∀ k : Nat, k < 160 → o_4 k = 0 := w_3
  refine lv_aload_n hx hb dX4_slideWindow_18 rfl (lv_at hl 0 rfl) ?_
  refine va_get (D := (dC, dI)) (ci := 4) (v := .ref w_) (C := RX4) (T := TX4) (N := 9) hx hb hts hi_4 hown hK hP 0 rfl rfl 5 (by decide) hf_42 (fun _ h9 => h9) rfl dX4_slideWindow_19 ?_
  refine lv_iconst (v := 0) hx hb dX4_slideWindow_22 (by decide) ?_
  obtain ⟨hPc, hDc, hFc, hCc⟩ := kx_preM (wc := [kx_a w_ cyI 160 fw]) hP hD hS hA [false, true, false, false, false, false, false] rfl
  have hKc := hK
  refine va_callv (va_runS (As := [.ref w_, .int 0]) (rest := []) ⟨hx, hb, hml, hown, hts⟩ (kx_un (c_J7_fill_160 l dC dI w_ cyI fw 0 H.size)) (va_cwS 2 hts gX4_slideWindow_J7_fill_53178 rfl rfl rfl (by decide +kernel) ⟨Nat.le_of_ble_eq_true rfl, Nat.le_of_ble_eq_true rfl⟩) ⟨fun a U g mk q => by obtain ⟨q0, q1, qP, qK, qD⟩ := q; exact ⟨q0, q1, qP, va_K.moved (u := U) (U := U.calling g mk a) (Vm.Alike.refl U.vm) qK, qD⟩, fun U hU hW => ⟨rfl, by rw [hU], by rw [hU]; exact hPc, va_K.moved hW.alike hKc, hDc.weaken (fun _ _ _ _ => trivial)⟩⟩ rfl rfl hl.1 rfl (lv_room (Nat.le_of_ble_eq_true rfl)) dX4_slideWindow_23 ⟨Nat.le_of_ble_eq_true rfl, Nat.le_of_ble_eq_true rfl⟩) hS (fun q _ h => hFc q h) hFc (fun u t H1 locs ht hvm w_5 hB hz1 hk1 hS => ?_)
  obtain ⟨o_6, rfl⟩ : ∃ z, z = u := ⟨_, rfl⟩
  obtain ⟨hP1, hK1, hD1⟩ := hB
  rw [ht] at hP1
  have hK1 := va_K.moved hvm.symm hK1
  obtain ⟨hP, hD⟩ := kx_joinM (w2 := [kx_4 m_ q_row q_t t_ h0 k0 w_ z_ slots old, kx_a w_ cyI 160 o_6, kx_a t_k cyI 160 o_2, kx_0 q_row q_cell len, kx_a q_cell cyI 160 f, kx_1 t_ t_k t_o 0 0, kx_a t_o cyI 160 o_4]) hP hD hP1 hD1 hk1 hFc [false, true, false, false, false, false, false] hCc rfl
  clear hP1 hD1 hK1 hk1 hz1 hFc hDc hPc hKc hCc
  generalize H1 = H at hP hS ⊢
  have w_5 : ∀ k : Nat, k < 160 → o_6 k = 0 := w_5
  refine lv_iconst (v := 0) hx hb dX4_slideWindow_26 (by decide) ?_
  refine lv_istore (lv' := [(4, .int 0), (0, .ref m_), (1, .int p0), (2, .int p1), (3, .int p2)]) hx hb dX4_slideWindow_27 hl (by decide) rfl (fun ls hl => ?_)
  refine lv_iconst (v := 0) hx hb dX4_slideWindow_29 (by decide) ?_
  refine lv_istore (lv' := [(5, .int 0), (4, .int 0), (0, .ref m_), (1, .int p0), (2, .int p1), (3, .int p2)]) hx hb dX4_slideWindow_30 hl (by decide) rfl (fun ls hl => ?_)
  have LP1 : ∀ (n : Nat) (i : Int32) (so : Int32) (a_t : Int32) (a_m : Int32) (a_q : Nat → Int32) (aw : Nat → Int32), (0 ≤ i.toInt) → (len.toInt - i.toInt).toNat < n → ∀ (H : Heap) (locs : List Loc), va_P (dC, dI) vwCl [kx_4 m_ q_row q_t t_ h0 k0 w_ z_ slots old, kx_a w_ cyI 160 aw, kx_a t_k cyI 160 o_2, kx_0 q_row q_cell len, kx_a q_cell cyI 160 f, kx_1 t_ t_k t_o a_t a_m, kx_a t_o cyI 160 a_q] H → va_D A [kx_4 m_ q_row q_t t_ h0 k0 w_ z_ slots old, kx_a w_ cyI 160 aw, kx_a t_k cyI 160 o_2, kx_0 q_row q_cell len, kx_a q_cell cyI 160 f, kx_1 t_ t_k t_o a_t a_m, kx_a t_o cyI 160 a_q] → va_S A s.heap H locs → ∀ (ls : Array Slot), lv_has ls 6 [(5, .int i), (4, .int so), (0, .ref m_), (1, .int p0), (2, .int p1), (3, .int p2)] → W p l e (headSpec wsX4_slideWindow ({ frames := 2, cells := 0, slots := 0, locals := 90 })).room s m ([.ref m_, .int p0, .int p1, .int p2] : List Value).toArray below meth c H locs 0 0 (MQ below (va_Qi (fun (r : Int32) (u : Int32 × Int32 × (Nat → Int32) × (Nat → Int32) × (Nat → Int32)) => True) (fun (u : Int32 × Int32 × (Nat → Int32) × (Nat → Int32) × (Nat → Int32)) (t : State) => va_P (dC, dI) vwCl [kx_4 m_ q_row q_t t_ h0 k0 w_ z_ slots old, kx_0 q_row q_cell len, kx_a q_cell cyI 160 f, kx_1 t_ t_k t_o u.1 u.2.1, kx_a t_k cyI 160 u.2.2.1, kx_a t_o cyI 160 u.2.2.2.1, kx_a w_ cyI 160 u.2.2.2.2] t.heap ∧ va_K (dC, dI) vwCl [(cyI, .int)] t ∧ va_D A [kx_4 m_ q_row q_t t_ h0 k0 w_ z_ slots old, kx_0 q_row q_cell len, kx_a q_cell cyI 160 f, kx_1 t_ t_k t_o u.1 u.2.1, kx_a t_k cyI 160 u.2.2.1, kx_a t_o cyI 160 u.2.2.2.1, kx_a w_ cyI 160 u.2.2.2.2]) A) ([.ref m_, .int p0, .int p1, .int p2] : List Value).toArray s 0 0 A) (F0 m 32 ls []) := by
    intro n
    induction n with
    | zero => intro i so a_t a_m a_q aw LP1_h0 hn; exact absurd hn (Nat.not_lt_zero _)
    | succ n ih1 =>
      intro i so a_t a_m a_q aw LP1_h0 hn1 H locs hP hD hS ls hl
      refine lv_iload hx hb dX4_slideWindow_32 (lv_at hl 0 rfl) ?_
      refine lv_aload_n hx hb dX4_slideWindow_34 rfl (lv_at hl 2 rfl) ?_
      refine va_get (D := (dC, dI)) (ci := 4) (v := .ref q_row) (C := RX4) (T := TX4) (N := 9) hx hb hts hi_4 hown hK hP 0 rfl rfl 0 (by decide) hf_12 (fun _ h9 => h9) rfl dX4_slideWindow_35 ?_
      refine va_get (D := (dC, dI)) (ci := 0) (v := .int len) (C := RX0) (T := TX0) (N := 2) hx hb hts hi_0 hown hK hP 3 rfl rfl 1 (by decide) hf_57 (fun _ h9 => h9) rfl dX4_slideWindow_38 ?_
      refine lv_icmp_ge (tgt := 97) hx hb dX4_slideWindow_41 (by decide) (fun c_7 => ?_) (fun c_7 => ?_)
      · have i_7 : len.toInt ≤ i.toInt := kc_le c_7
        refine lv_iload hx hb dX4_slideWindow_97 (lv_at hl 1 rfl) ?_
        obtain ⟨hP9, hD9⟩ := kx_sub (w2 := [kx_4 m_ q_row q_t t_ h0 k0 w_ z_ slots old, kx_0 q_row q_cell len, kx_a q_cell cyI 160 f, kx_1 t_ t_k t_o a_t a_m, kx_a t_k cyI 160 o_2, kx_a t_o cyI 160 a_q, kx_a w_ cyI 160 aw]) hP hD [0, 3, 4, 5, 2, 6, 1] (by decide) rfl
        have hK9 := hK
        exact W.iret (v := so) hx hb hr (hlocks := hlocks) (fun t ht hW => ⟨⟨so, (a_t, a_m, o_2, a_q, aw), rfl, trivial, by rw [ht]; exact hP9, va_K.moved hW.alike hK9, hD9⟩, hS.F ht⟩) hS.2.2 dX4_slideWindow_99
      · have i_7 : i.toInt < len.toInt := kc_nle c_7
        refine lv_aload_n hx hb dX4_slideWindow_44 rfl (lv_at hl 2 rfl) ?_
        refine va_get (D := (dC, dI)) (ci := 4) (v := .ref t_) (C := RX4) (T := TX4) (N := 9) hx hb hts hi_4 hown hK hP 0 rfl rfl 2 (by decide) hf_28 (fun _ h9 => h9) rfl dX4_slideWindow_45 ?_
        refine lv_iload hx hb dX4_slideWindow_48 (lv_at hl 0 rfl) ?_
        obtain ⟨hPc, hDc, hFc, hCc⟩ := kx_pre (wc := [kx_1 t_ t_k t_o a_t a_m, kx_a t_k cyI 160 o_2, kx_a t_o cyI 160 a_q]) hP hD hS hA [5, 2, 6] (by decide) rfl
        have hKc := hK
        refine va_callv (va_runV (As := [.int i]) (rest := []) ⟨hx, hb, hml, hown, hts⟩ (kx_un (c_X1_take l dC dI t_ t_k t_o cyI a_t a_m o_2 a_q len.toInt i H.size w_1 LP1_h0 i_7 a1)) (cwV 1 hts gX4_slideWindow_X1_take rfl rfl rfl (by decide +kernel) ⟨Nat.le_of_ble_eq_true rfl, Nat.le_of_ble_eq_true rfl⟩) ⟨fun a U g mk q => by obtain ⟨q0, q1, qP, qK, qD⟩ := q; exact ⟨q0, q1, qP, va_K.moved (u := U) (U := U.calling g mk a) (Vm.Alike.refl U.vm) qK, qD⟩, kx_rc1 hKc hPc (q0 := 0) rfl, fun U hU hW => ⟨rfl, by rw [hU], by rw [hU]; exact hPc, va_K.moved hW.alike hKc, hDc.weaken (fun _ _ _ _ => trivial)⟩⟩ rfl rfl hl.1 rfl (lv_room (Nat.le_of_ble_eq_true rfl)) dX4_slideWindow_50 ⟨Nat.le_of_ble_eq_true rfl, Nat.le_of_ble_eq_true rfl⟩) hS (fun q _ h => hFc q h) hFc (fun u t H1 locs ht hvm w_8 hB hz1 hk1 hS => ?_)
        obtain ⟨o_9, o_10, o_11⟩ := u
        dsimp only at w_8 hB
        obtain ⟨hP1, hK1, hD1⟩ := hB
        rw [ht] at hP1
        have hK1 := va_K.moved hvm.symm hK1
        obtain ⟨hP, hD⟩ := kx_join (w2 := [kx_4 m_ q_row q_t t_ h0 k0 w_ z_ slots old, kx_a w_ cyI 160 aw, kx_0 q_row q_cell len, kx_a q_cell cyI 160 f, kx_1 t_ t_k t_o o_9 o_10, kx_a t_k cyI 160 o_2, kx_a t_o cyI 160 o_11]) hP hD hP1 hD1 hk1 hFc [5, 2, 6] [0, 1, 3, 4] hCc rfl (by decide) (by decide)
        clear hP1 hD1 hK1 hk1 hz1 hFc hDc hPc hKc hCc
        generalize H1 = H at hP hS ⊢
        have w_8 : True := w_8
        refine lv_iload hx hb dX4_slideWindow_53 (lv_at hl 0 rfl) ?_
        refine lv_iload_n hx hb dX4_slideWindow_55 rfl (lv_at hl 3 rfl) ?_
        refine lv_icmp_lt (tgt := 70) hx hb dX4_slideWindow_56 (by decide) (fun c_12 => ?_) (fun c_12 => ?_)
        · have i_12 : i.toInt < p0.toInt := kc_lt c_12
          refine lv_iload hx hb dX4_slideWindow_70 (lv_at hl 0 rfl) ?_
          refine lv_iload_n hx hb dX4_slideWindow_72 rfl (lv_at hl 3 rfl) ?_
          refine lv_iconst (v := 1) hx hb dX4_slideWindow_73 (by decide) ?_
          refine lv_isub hx hb dX4_slideWindow_74 ?_
          refine lv_topi (fun y_13 ey_13 => ?_)
          have i_13 : y_13.toInt = p0.toInt - 1 := ki_sub ey_13 rfl rfl (om_182 b0) (om_183 a1 b1)
          refine lv_icmp_lt (tgt := 91) hx hb dX4_slideWindow_75 (by decide) (fun c_14 => ?_) (fun c_14 => ?_)
          · have i_14 : i.toInt < y_13.toInt := kc_lt c_14
            obtain ⟨x_15, ex_15⟩ : ∃ y : Int32, y = i + 1 := ⟨_, rfl⟩
            have i_15 : x_15.toInt = i.toInt + 1 := ki_add ex_15 rfl rfl (om_13 LP1_h0) (om_3 a1 i_7)
            refine lv_iinc (v := x_15) (lv' := [(5, .int x_15), (4, .int so), (0, .ref m_), (1, .int p0), (2, .int p1), (3, .int p2)]) hx hb dX4_slideWindow_91 hl (k := 0) rfl (by rw [ex_15]; rfl) (by decide) rfl (fun ls hl => ?_)
            refine lv_goto (tgt := 32) hx hb dX4_slideWindow_94 (by decide) ?_
            have hP : va_P (dC, dI) vwCl [kx_4 m_ q_row q_t t_ h0 k0 w_ z_ slots old, kx_a w_ cyI 160 aw, kx_a t_k cyI 160 o_2, kx_0 q_row q_cell len, kx_a q_cell cyI 160 f, kx_1 t_ t_k t_o o_9 o_10, kx_a t_o cyI 160 o_11] _ := hP.sub [0, 1, 5, 2, 3, 4, 6] rfl
            have hD : va_D A [kx_4 m_ q_row q_t t_ h0 k0 w_ z_ slots old, kx_a w_ cyI 160 aw, kx_a t_k cyI 160 o_2, kx_0 q_row q_cell len, kx_a q_cell cyI 160 f, kx_1 t_ t_k t_o o_9 o_10, kx_a t_o cyI 160 o_11] := hD.sub [0, 1, 5, 2, 3, 4, 6] (by decide) rfl
            exact ih1 x_15 so o_9 o_10 o_11 aw (om_34 LP1_h0 i_15) (om_mu hn1 (om_5 i_15) (om_6 i_7)) _ _ hP hD hS ls (lv_sub hl [0, 1, 2, 3, 4, 5] rfl)
          · have i_14 : y_13.toInt ≤ i.toInt := kc_nlt c_14
            refine lv_aload_n hx hb dX4_slideWindow_78 rfl (lv_at hl 2 rfl) ?_
            refine lv_iload_n hx hb dX4_slideWindow_79 rfl (lv_at hl 3 rfl) ?_
            refine lv_iload_n hx hb dX4_slideWindow_80 rfl (lv_at hl 4 rfl) ?_
            refine lv_iload_n hx hb dX4_slideWindow_81 rfl (lv_at hl 5 rfl) ?_
            obtain ⟨hPc, hDc, hFc, hCc⟩ := kx_pre (wc := [kx_4 m_ q_row q_t t_ h0 k0 w_ z_ slots old, kx_0 q_row q_cell len, kx_a q_cell cyI 160 f, kx_1 t_ t_k t_o o_9 o_10, kx_a t_k cyI 160 o_2, kx_a t_o cyI 160 o_11, kx_a w_ cyI 160 aw]) hP hD hS hA [0, 2, 3, 4, 5, 6, 1] (by decide) rfl
            have hKc := hK
            refine va_calli (va_runV (As := [.int p0, .int p1, .int p2]) (rest := []) ⟨hx, hb, hml, hown, hts⟩ (kx_un (c_X4_creditHeavy l dC dI m_ q_row q_t t_ h0 k0 w_ z_ slots old q_cell cyI len f t_k t_o o_9 o_10 o_2 o_11 aw p0 p1 p2 H.size a0 a1)) (cwV 3 hts gX4_slideWindow_X4_creditHeavy rfl rfl rfl (by decide +kernel) ⟨Nat.le_of_ble_eq_true rfl, Nat.le_of_ble_eq_true rfl⟩) ⟨fun a U g mk q => by obtain ⟨q0, q1, qP, qK, qD⟩ := q; exact ⟨q0, q1, qP, va_K.moved (u := U) (U := U.calling g mk a) (Vm.Alike.refl U.vm) qK, qD⟩, kx_rc4 hKc hPc (q0 := 0) rfl, fun U hU hW => ⟨rfl, by rw [hU], by rw [hU]; exact hPc, va_K.moved hW.alike hKc, hDc.weaken (fun _ _ _ _ => trivial)⟩⟩ rfl rfl hl.1 rfl (lv_room (Nat.le_of_ble_eq_true rfl)) dX4_slideWindow_82 ⟨Nat.le_of_ble_eq_true rfl, Nat.le_of_ble_eq_true rfl⟩) hS (fun q _ h => hFc q h) hFc (fun r_16 u t H1 locs ht hvm w_16 hB hz1 hk1 hS => ?_)
            obtain ⟨o_17, rfl⟩ : ∃ z, z = u := ⟨_, rfl⟩
            obtain ⟨hP1, hK1, hD1⟩ := hB
            rw [ht] at hP1
            have hK1 := va_K.moved hvm.symm hK1
            obtain ⟨hP, hD⟩ := kx_join (w2 := [kx_4 m_ q_row q_t t_ h0 k0 w_ z_ slots old, kx_0 q_row q_cell len, kx_a q_cell cyI 160 f, kx_1 t_ t_k t_o o_9 o_10, kx_a t_k cyI 160 o_2, kx_a t_o cyI 160 o_11, kx_a w_ cyI 160 o_17]) hP hD hP1 hD1 hk1 hFc [0, 2, 3, 4, 5, 6, 1] [] hCc rfl (by decide) (by decide)
            clear hP1 hD1 hK1 hk1 hz1 hFc hDc hPc hKc hCc
            generalize H1 = H at hP hS ⊢
            have w_16 : r_16 = 1 ∨ r_16 = 0 := w_16
            refine lv_if_eq (tgt := 91) hx hb dX4_slideWindow_85 (by decide) (fun c_18 => ?_) (fun c_18 => ?_)
            · have i_18 : r_16.toInt = 0 := kc_eq c_18
              obtain ⟨x_19, ex_19⟩ : ∃ y : Int32, y = i + 1 := ⟨_, rfl⟩
              have i_19 : x_19.toInt = i.toInt + 1 := ki_add ex_19 rfl rfl (om_13 LP1_h0) (om_3 a1 i_7)
              refine lv_iinc (v := x_19) (lv' := [(5, .int x_19), (4, .int so), (0, .ref m_), (1, .int p0), (2, .int p1), (3, .int p2)]) hx hb dX4_slideWindow_91 hl (k := 0) rfl (by rw [ex_19]; rfl) (by decide) rfl (fun ls hl => ?_)
              refine lv_goto (tgt := 32) hx hb dX4_slideWindow_94 (by decide) ?_
              have hP : va_P (dC, dI) vwCl [kx_4 m_ q_row q_t t_ h0 k0 w_ z_ slots old, kx_a w_ cyI 160 o_17, kx_a t_k cyI 160 o_2, kx_0 q_row q_cell len, kx_a q_cell cyI 160 f, kx_1 t_ t_k t_o o_9 o_10, kx_a t_o cyI 160 o_11] _ := hP.sub [0, 6, 4, 1, 2, 3, 5] rfl
              have hD : va_D A [kx_4 m_ q_row q_t t_ h0 k0 w_ z_ slots old, kx_a w_ cyI 160 o_17, kx_a t_k cyI 160 o_2, kx_0 q_row q_cell len, kx_a q_cell cyI 160 f, kx_1 t_ t_k t_o o_9 o_10, kx_a t_o cyI 160 o_11] := hD.sub [0, 6, 4, 1, 2, 3, 5] (by decide) rfl
              exact ih1 x_19 so o_9 o_10 o_11 o_17 (om_34 LP1_h0 i_19) (om_mu hn1 (om_5 i_19) (om_6 i_7)) _ _ hP hD hS ls (lv_sub hl [0, 1, 2, 3, 4, 5] rfl)
            · have i_18 : ¬ r_16.toInt = 0 := kc_ne c_18
              obtain ⟨x_20, ex_20⟩ : ∃ y : Int32, y = so + 1 := ⟨_, rfl⟩
              refine lv_iinc (v := x_20) (lv' := [(4, .int x_20), (5, .int i), (0, .ref m_), (1, .int p0), (2, .int p1), (3, .int p2)]) hx hb dX4_slideWindow_88 hl (k := 1) rfl (by rw [ex_20]; rfl) (by decide) rfl (fun ls hl => ?_)
              obtain ⟨x_21, ex_21⟩ : ∃ y : Int32, y = i + 1 := ⟨_, rfl⟩
              have i_21 : x_21.toInt = i.toInt + 1 := ki_add ex_21 rfl rfl (om_13 LP1_h0) (om_3 a1 i_7)
              refine lv_iinc (v := x_21) (lv' := [(5, .int x_21), (4, .int x_20), (0, .ref m_), (1, .int p0), (2, .int p1), (3, .int p2)]) hx hb dX4_slideWindow_91 hl (k := 1) rfl (by rw [ex_21]; rfl) (by decide) rfl (fun ls hl => ?_)
              refine lv_goto (tgt := 32) hx hb dX4_slideWindow_94 (by decide) ?_
              have hP : va_P (dC, dI) vwCl [kx_4 m_ q_row q_t t_ h0 k0 w_ z_ slots old, kx_a w_ cyI 160 o_17, kx_a t_k cyI 160 o_2, kx_0 q_row q_cell len, kx_a q_cell cyI 160 f, kx_1 t_ t_k t_o o_9 o_10, kx_a t_o cyI 160 o_11] _ := hP.sub [0, 6, 4, 1, 2, 3, 5] rfl
              have hD : va_D A [kx_4 m_ q_row q_t t_ h0 k0 w_ z_ slots old, kx_a w_ cyI 160 o_17, kx_a t_k cyI 160 o_2, kx_0 q_row q_cell len, kx_a q_cell cyI 160 f, kx_1 t_ t_k t_o o_9 o_10, kx_a t_o cyI 160 o_11] := hD.sub [0, 6, 4, 1, 2, 3, 5] (by decide) rfl
              exact ih1 x_21 x_20 o_9 o_10 o_11 o_17 (om_34 LP1_h0 i_21) (om_mu hn1 (om_5 i_21) (om_6 i_7)) _ _ hP hD hS ls (lv_sub hl [0, 1, 2, 3, 4, 5] rfl)
        · have i_12 : p0.toInt ≤ i.toInt := kc_nlt c_12
          refine lv_aload_n hx hb dX4_slideWindow_59 rfl (lv_at hl 2 rfl) ?_
          refine va_get (D := (dC, dI)) (ci := 4) (v := .ref t_) (C := RX4) (T := TX4) (N := 9) hx hb hts hi_4 hown hK hP 0 rfl rfl 2 (by decide) hf_28 (fun _ h9 => h9) rfl dX4_slideWindow_60 ?_
          refine lv_iload hx hb dX4_slideWindow_63 (lv_at hl 0 rfl) ?_
          refine lv_iload_n hx hb dX4_slideWindow_65 rfl (lv_at hl 3 rfl) ?_
          refine lv_isub hx hb dX4_slideWindow_66 ?_
          refine lv_topi (fun y_22 ey_22 => ?_)
          have i_22 : y_22.toInt = i.toInt - p0.toInt := ki_sub ey_22 rfl rfl (om_184 i_12) (om_185 a1 b0 i_7)
          obtain ⟨hPc, hDc, hFc, hCc⟩ := kx_preM (wc := [kx_1 t_ t_k t_o o_9 o_10, kx_a t_k cyI 160 o_2, kx_a t_o cyI 160 o_11]) hP hD hS hA [false, false, false, false, true, true, true] rfl
          have hKc := hK
          refine va_callv (va_runV (As := [.int y_22]) (rest := []) ⟨hx, hb, hml, hown, hts⟩ (kx_un (c_X1_drop l dC dI t_ t_k t_o cyI o_9 o_10 o_2 o_11 len.toInt y_22 H.size w_1 (om_186 i_12 i_22) (om_187 b0 i_7 i_22) a1)) (cwV 1 hts gX4_slideWindow_X1_drop rfl rfl rfl (by decide +kernel) ⟨Nat.le_of_ble_eq_true rfl, Nat.le_of_ble_eq_true rfl⟩) ⟨fun a U g mk q => by obtain ⟨q0, q1, qP, qK, qD⟩ := q; exact ⟨q0, q1, qP, va_K.moved (u := U) (U := U.calling g mk a) (Vm.Alike.refl U.vm) qK, qD⟩, kx_rc1 hKc hPc (q0 := 0) rfl, fun U hU hW => ⟨rfl, by rw [hU], by rw [hU]; exact hPc, va_K.moved hW.alike hKc, hDc.weaken (fun _ _ _ _ => trivial)⟩⟩ rfl rfl hl.1 rfl (lv_room (Nat.le_of_ble_eq_true rfl)) dX4_slideWindow_67 ⟨Nat.le_of_ble_eq_true rfl, Nat.le_of_ble_eq_true rfl⟩) hS (fun q _ h => hFc q h) hFc (fun u t H1 locs ht hvm w_23 hB hz1 hk1 hS => ?_)
          obtain ⟨o_24, o_25⟩ := u
          dsimp only at w_23 hB
          obtain ⟨hP1, hK1, hD1⟩ := hB
          rw [ht] at hP1
          have hK1 := va_K.moved hvm.symm hK1
          obtain ⟨hP, hD⟩ := kx_joinM (w2 := [kx_4 m_ q_row q_t t_ h0 k0 w_ z_ slots old, kx_a w_ cyI 160 aw, kx_0 q_row q_cell len, kx_a q_cell cyI 160 f, kx_1 t_ t_k t_o o_24 o_10, kx_a t_k cyI 160 o_2, kx_a t_o cyI 160 o_25]) hP hD hP1 hD1 hk1 hFc [false, false, false, false, true, true, true] hCc rfl
          clear hP1 hD1 hK1 hk1 hz1 hFc hDc hPc hKc hCc
          generalize H1 = H at hP hS ⊢
          have w_23 : True := w_23
          refine lv_iload hx hb dX4_slideWindow_70 (lv_at hl 0 rfl) ?_
          refine lv_iload_n hx hb dX4_slideWindow_72 rfl (lv_at hl 3 rfl) ?_
          refine lv_iconst (v := 1) hx hb dX4_slideWindow_73 (by decide) ?_
          refine lv_isub hx hb dX4_slideWindow_74 ?_
          refine lv_topi (fun y_26 ey_26 => ?_)
          have i_26 : y_26.toInt = p0.toInt - 1 := ki_sub ey_26 rfl rfl (om_182 b0) (om_183 a1 b1)
          refine lv_icmp_lt (tgt := 91) hx hb dX4_slideWindow_75 (by decide) (fun c_27 => ?_) (fun c_27 => ?_)
          · have i_27 : i.toInt < y_26.toInt := kc_lt c_27
            exfalso; omega
          · have i_27 : y_26.toInt ≤ i.toInt := kc_nlt c_27
            refine lv_aload_n hx hb dX4_slideWindow_78 rfl (lv_at hl 2 rfl) ?_
            refine lv_iload_n hx hb dX4_slideWindow_79 rfl (lv_at hl 3 rfl) ?_
            refine lv_iload_n hx hb dX4_slideWindow_80 rfl (lv_at hl 4 rfl) ?_
            refine lv_iload_n hx hb dX4_slideWindow_81 rfl (lv_at hl 5 rfl) ?_
            obtain ⟨hPc, hDc, hFc, hCc⟩ := kx_pre (wc := [kx_4 m_ q_row q_t t_ h0 k0 w_ z_ slots old, kx_0 q_row q_cell len, kx_a q_cell cyI 160 f, kx_1 t_ t_k t_o o_24 o_10, kx_a t_k cyI 160 o_2, kx_a t_o cyI 160 o_25, kx_a w_ cyI 160 aw]) hP hD hS hA [0, 2, 3, 4, 5, 6, 1] (by decide) rfl
            have hKc := hK
            refine va_calli (va_runV (As := [.int p0, .int p1, .int p2]) (rest := []) ⟨hx, hb, hml, hown, hts⟩ (kx_un (c_X4_creditHeavy l dC dI m_ q_row q_t t_ h0 k0 w_ z_ slots old q_cell cyI len f t_k t_o o_24 o_10 o_2 o_25 aw p0 p1 p2 H.size a0 a1)) (cwV 3 hts gX4_slideWindow_X4_creditHeavy rfl rfl rfl (by decide +kernel) ⟨Nat.le_of_ble_eq_true rfl, Nat.le_of_ble_eq_true rfl⟩) ⟨fun a U g mk q => by obtain ⟨q0, q1, qP, qK, qD⟩ := q; exact ⟨q0, q1, qP, va_K.moved (u := U) (U := U.calling g mk a) (Vm.Alike.refl U.vm) qK, qD⟩, kx_rc4 hKc hPc (q0 := 0) rfl, fun U hU hW => ⟨rfl, by rw [hU], by rw [hU]; exact hPc, va_K.moved hW.alike hKc, hDc.weaken (fun _ _ _ _ => trivial)⟩⟩ rfl rfl hl.1 rfl (lv_room (Nat.le_of_ble_eq_true rfl)) dX4_slideWindow_82 ⟨Nat.le_of_ble_eq_true rfl, Nat.le_of_ble_eq_true rfl⟩) hS (fun q _ h => hFc q h) hFc (fun r_28 u t H1 locs ht hvm w_28 hB hz1 hk1 hS => ?_)
            obtain ⟨o_29, rfl⟩ : ∃ z, z = u := ⟨_, rfl⟩
            obtain ⟨hP1, hK1, hD1⟩ := hB
            rw [ht] at hP1
            have hK1 := va_K.moved hvm.symm hK1
            obtain ⟨hP, hD⟩ := kx_join (w2 := [kx_4 m_ q_row q_t t_ h0 k0 w_ z_ slots old, kx_0 q_row q_cell len, kx_a q_cell cyI 160 f, kx_1 t_ t_k t_o o_24 o_10, kx_a t_k cyI 160 o_2, kx_a t_o cyI 160 o_25, kx_a w_ cyI 160 o_29]) hP hD hP1 hD1 hk1 hFc [0, 2, 3, 4, 5, 6, 1] [] hCc rfl (by decide) (by decide)
            clear hP1 hD1 hK1 hk1 hz1 hFc hDc hPc hKc hCc
            generalize H1 = H at hP hS ⊢
            have w_28 : r_28 = 1 ∨ r_28 = 0 := w_28
            refine lv_if_eq (tgt := 91) hx hb dX4_slideWindow_85 (by decide) (fun c_30 => ?_) (fun c_30 => ?_)
            · have i_30 : r_28.toInt = 0 := kc_eq c_30
              obtain ⟨x_31, ex_31⟩ : ∃ y : Int32, y = i + 1 := ⟨_, rfl⟩
              have i_31 : x_31.toInt = i.toInt + 1 := ki_add ex_31 rfl rfl (om_13 LP1_h0) (om_3 a1 i_7)
              refine lv_iinc (v := x_31) (lv' := [(5, .int x_31), (4, .int so), (0, .ref m_), (1, .int p0), (2, .int p1), (3, .int p2)]) hx hb dX4_slideWindow_91 hl (k := 0) rfl (by rw [ex_31]; rfl) (by decide) rfl (fun ls hl => ?_)
              refine lv_goto (tgt := 32) hx hb dX4_slideWindow_94 (by decide) ?_
              have hP : va_P (dC, dI) vwCl [kx_4 m_ q_row q_t t_ h0 k0 w_ z_ slots old, kx_a w_ cyI 160 o_29, kx_a t_k cyI 160 o_2, kx_0 q_row q_cell len, kx_a q_cell cyI 160 f, kx_1 t_ t_k t_o o_24 o_10, kx_a t_o cyI 160 o_25] _ := hP.sub [0, 6, 4, 1, 2, 3, 5] rfl
              have hD : va_D A [kx_4 m_ q_row q_t t_ h0 k0 w_ z_ slots old, kx_a w_ cyI 160 o_29, kx_a t_k cyI 160 o_2, kx_0 q_row q_cell len, kx_a q_cell cyI 160 f, kx_1 t_ t_k t_o o_24 o_10, kx_a t_o cyI 160 o_25] := hD.sub [0, 6, 4, 1, 2, 3, 5] (by decide) rfl
              exact ih1 x_31 so o_24 o_10 o_25 o_29 (om_34 LP1_h0 i_31) (om_mu hn1 (om_5 i_31) (om_6 i_7)) _ _ hP hD hS ls (lv_sub hl [0, 1, 2, 3, 4, 5] rfl)
            · have i_30 : ¬ r_28.toInt = 0 := kc_ne c_30
              obtain ⟨x_32, ex_32⟩ : ∃ y : Int32, y = so + 1 := ⟨_, rfl⟩
              refine lv_iinc (v := x_32) (lv' := [(4, .int x_32), (5, .int i), (0, .ref m_), (1, .int p0), (2, .int p1), (3, .int p2)]) hx hb dX4_slideWindow_88 hl (k := 1) rfl (by rw [ex_32]; rfl) (by decide) rfl (fun ls hl => ?_)
              obtain ⟨x_33, ex_33⟩ : ∃ y : Int32, y = i + 1 := ⟨_, rfl⟩
              have i_33 : x_33.toInt = i.toInt + 1 := ki_add ex_33 rfl rfl (om_13 LP1_h0) (om_3 a1 i_7)
              refine lv_iinc (v := x_33) (lv' := [(5, .int x_33), (4, .int x_32), (0, .ref m_), (1, .int p0), (2, .int p1), (3, .int p2)]) hx hb dX4_slideWindow_91 hl (k := 1) rfl (by rw [ex_33]; rfl) (by decide) rfl (fun ls hl => ?_)
              refine lv_goto (tgt := 32) hx hb dX4_slideWindow_94 (by decide) ?_
              have hP : va_P (dC, dI) vwCl [kx_4 m_ q_row q_t t_ h0 k0 w_ z_ slots old, kx_a w_ cyI 160 o_29, kx_a t_k cyI 160 o_2, kx_0 q_row q_cell len, kx_a q_cell cyI 160 f, kx_1 t_ t_k t_o o_24 o_10, kx_a t_o cyI 160 o_25] _ := hP.sub [0, 6, 4, 1, 2, 3, 5] rfl
              have hD : va_D A [kx_4 m_ q_row q_t t_ h0 k0 w_ z_ slots old, kx_a w_ cyI 160 o_29, kx_a t_k cyI 160 o_2, kx_0 q_row q_cell len, kx_a q_cell cyI 160 f, kx_1 t_ t_k t_o o_24 o_10, kx_a t_o cyI 160 o_25] := hD.sub [0, 6, 4, 1, 2, 3, 5] (by decide) rfl
              exact ih1 x_33 x_32 o_24 o_10 o_25 o_29 (om_34 LP1_h0 i_33) (om_mu hn1 (om_5 i_33) (om_6 i_7)) _ _ hP hD hS ls (lv_sub hl [0, 1, 2, 3, 4, 5] rfl)
  have k_34 : (0 : Int32).toInt = 0 := rfl
  have k_35 : (0 : Int32).toInt = 0 := rfl
  have k_36 : (0 : Int32).toInt = 0 := rfl
  have k_37 : (0 : Int32).toInt = 0 := rfl
  exact LP1 ((len.toInt - 0 : Int).toNat + 1) 0 0 0 0 o_4 o_6 om_35 (Nat.lt_succ_self _) _ _ hP hD hS ls (lv_sub hl [0, 1, 2, 3, 4, 5] rfl)

set_option maxHeartbeats 4000000 in
set_option maxRecDepth 100000 in
theorem c_X4_windows (l : Launch) (dC : Nat → ClassId) (dI : Nat → Nat → Nat) (m_ : Nat) (q_row : Nat) (q_t : Nat) (t_ : Nat) (h0 : Nat) (k0 : Nat) (w_ : Nat) (z_ : Nat) (slots : Int32) (old : Int32) (q_cell : Nat) (cyI : ClassId) (len : Int32) (f : Nat → Int32) (t_k : Nat) (t_o : Nat) (tk : Int32) (mo : Int32) (fk : Nat → Int32) (fq : Nat → Int32) (fw : Nat → Int32) (p0 : Int32) (p1 : Int32) (p2 : Int32) (p3 : Int32) (sz : Nat) (a0 : 0 ≤ len.toInt) (a1 : len.toInt ≤ 160) : kx_MQ l (dC, dI) yX4_windows wsX4_windows ({ frames := 3, cells := 0, slots := 0, locals := 135 }) [.ref m_, .int p0, .int p1, .int p2, .int p3] [kx_4 m_ q_row q_t t_ h0 k0 w_ z_ slots old, kx_0 q_row q_cell len, kx_a q_cell cyI 160 f, kx_1 t_ t_k t_o tk mo, kx_a t_k cyI 160 fk, kx_a t_o cyI 160 fq, kx_a w_ cyI 160 fw] [(cyI, .int)] sz (fun A => va_Qi (fun (r : Int32) (u : Int32 × Int32 × (Nat → Int32) × (Nat → Int32) × (Nat → Int32)) => True) (fun (u : Int32 × Int32 × (Nat → Int32) × (Nat → Int32) × (Nat → Int32)) (t : State) => va_P (dC, dI) vwCl [kx_4 m_ q_row q_t t_ h0 k0 w_ z_ slots old, kx_0 q_row q_cell len, kx_a q_cell cyI 160 f, kx_1 t_ t_k t_o u.1 u.2.1, kx_a t_k cyI 160 u.2.2.1, kx_a t_o cyI 160 u.2.2.2.1, kx_a w_ cyI 160 u.2.2.2.2] t.heap ∧ va_K (dC, dI) vwCl [(cyI, .int)] t ∧ va_D A [kx_4 m_ q_row q_t t_ h0 k0 w_ z_ slots old, kx_0 q_row q_cell len, kx_a q_cell cyI 160 f, kx_1 t_ t_k t_o u.1 u.2.1, kx_a t_k cyI 160 u.2.2.1, kx_a t_o cyI 160 u.2.2.2.1, kx_a w_ cyI 160 u.2.2.2.2]) A) := by
  refine kx_stQ (ws := wsX4_windows) (cc := cX4_windows) (maxL := 7) (ret := (some .int)) (by decide) rfl (Nat.le_of_ble_eq_true rfl) ?_
  intro p e s m below meth c A ls hx hb hr hlocks hts hown hml hA hS hP hK hD hl
  have hown : s.vm.findClass RX4 = some m.cls := hown
  have hl : lv_has ls 7 [(0, .ref m_), (1, .int p0), (2, .int p1), (3, .int p2), (4, .int p3)] := hl
  have hk_102 := hts (.constant RX4 102 (-40000)) (List.mem_of_getElem? (i := 3) rfl)
  have hf_12 := hts (.fieldLink RX4 12 "MajorityIndex" "row" "LMajorityIndex$Row;") (List.mem_of_getElem? (i := 1) rfl)
  have hi_4 : ∀ w ∈ u_ws RX4 TX4 9, w ∈ wsX4_windows := fun w h => List.mem_cons_of_mem _ (List.mem_append_left _ (List.mem_append_left _ (List.mem_append_right _ h)))
  have hf_57 := hts (.fieldLink RX4 57 "MajorityIndex$Row" "length" "I") (List.mem_of_getElem? (i := 2) rfl)
  have hi_0 : ∀ w ∈ u_ws RX0 TX0 2, w ∈ wsX4_windows := fun w h => List.mem_cons_of_mem _ (List.mem_append_left _ (List.mem_append_right _ h))
  have hf_42 := hts (.fieldLink RX4 42 "MajorityIndex" "wins" "[I") (List.mem_of_getElem? (i := 5) rfl)
  have hf_110 := hts (.fieldLink RX4 110 "MajorityIndex$Row" "cell" "[I") (List.mem_of_getElem? (i := 4) rfl)
  refine lv_iload hx hb dX4_windows_0 (lv_at hl 4 rfl) ?_
  refine lv_if_lt (tgt := 11) hx hb dX4_windows_2 (by decide) (fun c_1 => ?_) (fun c_1 => ?_)
  · have i_1 : p3.toInt < 0 := kc_lt c_1
    refine lv_iconst (v := (-1)) hx hb dX4_windows_11 (by decide) ?_
    have hP9 := hP
    have hD9 := hD
    have hK9 := hK
    exact W.iret (v := (-1)) hx hb hr (hlocks := hlocks) (fun t ht hW => ⟨⟨(-1), (tk, mo, fk, fq, fw), rfl, trivial, by rw [ht]; exact hP9, va_K.moved hW.alike hK9, hD9⟩, hS.F ht⟩) hS.2.2 dX4_windows_12
  · have i_1 : 0 ≤ p3.toInt := kc_nlt c_1
    refine lv_iload hx hb dX4_windows_5 (lv_at hl 4 rfl) ?_
    refine lv_iconst (v := 2) hx hb dX4_windows_7 (by decide) ?_
    refine lv_icmp_le (tgt := 13) hx hb dX4_windows_8 (by decide) (fun c_2 => ?_) (fun c_2 => ?_)
    · have i_2 : p3.toInt ≤ 2 := kc_le c_2
      refine lv_iload_n hx hb dX4_windows_13 rfl (lv_at hl 1 rfl) ?_
      refine lv_iconst (v := 1) hx hb dX4_windows_14 (by decide) ?_
      refine lv_icmp_lt (tgt := 37) hx hb dX4_windows_15 (by decide) (fun c_3 => ?_) (fun c_3 => ?_)
      · have i_3 : p0.toInt < 1 := kc_lt c_3
        refine lv_iload hx hb dX4_windows_37 (lv_at hl 4 rfl) ?_
        refine lv_iconst (v := 1) hx hb dX4_windows_39 (by decide) ?_
        refine lv_icmp_ne (tgt := 48) hx hb dX4_windows_40 (by decide) (fun c_4 => ?_) (fun c_4 => ?_)
        · have i_4 : ¬ p3.toInt = 1 := kc_ne c_4
          refine lv_iconst (v := (-1)) hx hb dX4_windows_48 (by decide) ?_
          have hP9 := hP
          have hD9 := hD
          have hK9 := hK
          exact W.iret (v := (-1)) hx hb hr (hlocks := hlocks) (fun t ht hW => ⟨⟨(-1), (tk, mo, fk, fq, fw), rfl, trivial, by rw [ht]; exact hP9, va_K.moved hW.alike hK9, hD9⟩, hS.F ht⟩) hS.2.2 dX4_windows_49
        · have i_4 : p3.toInt = 1 := kc_eq c_4
          refine lv_ldc (v := (-40000)) hx hb hown hk_102 dX4_windows_43 ?_
          refine lv_goto (tgt := 49) hx hb dX4_windows_45 (by decide) ?_
          have hP9 := hP
          have hD9 := hD
          have hK9 := hK
          exact W.iret (v := (-40000)) hx hb hr (hlocks := hlocks) (fun t ht hW => ⟨⟨(-40000), (tk, mo, fk, fq, fw), rfl, trivial, by rw [ht]; exact hP9, va_K.moved hW.alike hK9, hD9⟩, hS.F ht⟩) hS.2.2 dX4_windows_49
      · have i_3 : 1 ≤ p0.toInt := kc_nlt c_3
        refine lv_iload_n hx hb dX4_windows_18 rfl (lv_at hl 1 rfl) ?_
        refine lv_aload_n hx hb dX4_windows_19 rfl (lv_at hl 0 rfl) ?_
        refine va_get (D := (dC, dI)) (ci := 4) (v := .ref q_row) (C := RX4) (T := TX4) (N := 9) hx hb hts hi_4 hown hK hP 0 rfl rfl 0 (by decide) hf_12 (fun _ h9 => h9) rfl dX4_windows_20 ?_
        refine va_get (D := (dC, dI)) (ci := 0) (v := .int len) (C := RX0) (T := TX0) (N := 2) hx hb hts hi_0 hown hK hP 1 rfl rfl 1 (by decide) hf_57 (fun _ h9 => h9) rfl dX4_windows_23 ?_
        refine lv_icmp_gt (tgt := 37) hx hb dX4_windows_26 (by decide) (fun c_5 => ?_) (fun c_5 => ?_)
        · have i_5 : len.toInt < p0.toInt := kc_lt c_5
          refine lv_iload hx hb dX4_windows_37 (lv_at hl 4 rfl) ?_
          refine lv_iconst (v := 1) hx hb dX4_windows_39 (by decide) ?_
          refine lv_icmp_ne (tgt := 48) hx hb dX4_windows_40 (by decide) (fun c_6 => ?_) (fun c_6 => ?_)
          · have i_6 : ¬ p3.toInt = 1 := kc_ne c_6
            refine lv_iconst (v := (-1)) hx hb dX4_windows_48 (by decide) ?_
            have hP9 := hP
            have hD9 := hD
            have hK9 := hK
            exact W.iret (v := (-1)) hx hb hr (hlocks := hlocks) (fun t ht hW => ⟨⟨(-1), (tk, mo, fk, fq, fw), rfl, trivial, by rw [ht]; exact hP9, va_K.moved hW.alike hK9, hD9⟩, hS.F ht⟩) hS.2.2 dX4_windows_49
          · have i_6 : p3.toInt = 1 := kc_eq c_6
            refine lv_ldc (v := (-40000)) hx hb hown hk_102 dX4_windows_43 ?_
            refine lv_goto (tgt := 49) hx hb dX4_windows_45 (by decide) ?_
            have hP9 := hP
            have hD9 := hD
            have hK9 := hK
            exact W.iret (v := (-40000)) hx hb hr (hlocks := hlocks) (fun t ht hW => ⟨⟨(-40000), (tk, mo, fk, fq, fw), rfl, trivial, by rw [ht]; exact hP9, va_K.moved hW.alike hK9, hD9⟩, hS.F ht⟩) hS.2.2 dX4_windows_49
        · have i_5 : p0.toInt ≤ len.toInt := kc_nlt c_5
          refine lv_iload_n hx hb dX4_windows_29 rfl (lv_at hl 2 rfl) ?_
          refine lv_iload_n hx hb dX4_windows_30 rfl (lv_at hl 3 rfl) ?_
          have hPc := hP.sub (ws' := []) [] rfl
          have hKc := hK.sub (tys' := []) [] rfl
          refine vp_callSi (W.runS (As := [.int p1, .int p2]) (rest := []) ⟨hx, hb, hml, hown, hts⟩ (c_X4_isShare l dC dI p1 p2) (va_cwS 2 hts gX4_windows_X4_isShare rfl rfl rfl (by decide +kernel) ⟨Nat.le_of_ble_eq_true rfl, Nat.le_of_ble_eq_true rfl⟩) ⟨fun a U g mk q => by obtain ⟨q0, qP, qK⟩ := q; exact ⟨q0, qP, va_K.moved (u := U) (U := U.calling g mk a) (Vm.Alike.refl U.vm) qK⟩, fun U hU hW => ⟨rfl, by rw [hU]; exact hPc, va_K.moved hW.alike hKc⟩⟩ rfl rfl hl.1 rfl (lv_room (Nat.le_of_ble_eq_true rfl)) dX4_windows_31 ⟨Nat.le_of_ble_eq_true rfl, Nat.le_of_ble_eq_true rfl⟩) (fun r_7 w_7 => ?_)
          rcases w_7 with ⟨rfl, w_7⟩ | ⟨rfl, w_7⟩
          · have w_7 : (1 ≤ p1.toInt ∧ p1.toInt ≤ p2.toInt ∧ p2.toInt ≤ 999) := w_7
            refine lv_if_ne (tgt := 50) hx hb dX4_windows_34 (by decide) (fun c_8 => ?_) (fun c_8 => ?_)
            · refine lv_aload_n hx hb dX4_windows_50 rfl (lv_at hl 0 rfl) ?_
              refine lv_iload_n hx hb dX4_windows_51 rfl (lv_at hl 1 rfl) ?_
              refine lv_iload_n hx hb dX4_windows_52 rfl (lv_at hl 2 rfl) ?_
              refine lv_iload_n hx hb dX4_windows_53 rfl (lv_at hl 3 rfl) ?_
              have hPc := hP
              have hKc := hK
              have hDc := hD
              have hFc := kx_free hD hS hA
              refine va_calli (va_runV (As := [.int p0, .int p1, .int p2]) (rest := []) ⟨hx, hb, hml, hown, hts⟩ (kx_un (c_X4_slideWindow l dC dI m_ q_row q_t t_ h0 k0 w_ z_ slots old q_cell cyI len f t_k t_o tk mo fk fq fw p0 p1 p2 s.heap.size a0 a1 i_3 i_5)) (cwV 3 hts gX4_windows_X4_slideWindow rfl rfl rfl (by decide +kernel) ⟨Nat.le_of_ble_eq_true rfl, Nat.le_of_ble_eq_true rfl⟩) ⟨fun a U g mk q => by obtain ⟨q0, q1, qP, qK, qD⟩ := q; exact ⟨q0, q1, qP, va_K.moved (u := U) (U := U.calling g mk a) (Vm.Alike.refl U.vm) qK, qD⟩, kx_rc4 hKc hPc (q0 := 0) rfl, fun U hU hW => ⟨rfl, by rw [hU], by rw [hU]; exact hPc, va_K.moved hW.alike hKc, hDc.weaken (fun _ _ _ _ => trivial)⟩⟩ rfl rfl hl.1 rfl (lv_room (Nat.le_of_ble_eq_true rfl)) dX4_windows_54 ⟨Nat.le_of_ble_eq_true rfl, Nat.le_of_ble_eq_true rfl⟩) hS (fun q _ h => hFc q h) hFc (fun r_9 u t H1 locs ht hvm w_9 hB hz1 hk1 hS => ?_)
              obtain ⟨o_10, o_11, o_12, o_13, o_14⟩ := u
              dsimp only at w_9 hB
              obtain ⟨hP1, hK1, hD1⟩ := hB
              rw [ht] at hP1
              have hK1 := va_K.moved hvm.symm hK1
              have hD := hD1.weaken (fun _ q _ h => hFc q.1 h)
              have hP := hP1
              clear hP1 hD1 hK1 hk1 hz1 hFc hDc hPc hKc
              generalize H1 = H at hP hS ⊢
              have w_9 : True := w_9
              refine lv_istore (lv' := [(5, .int r_9), (0, .ref m_), (1, .int p0), (2, .int p1), (3, .int p2), (4, .int p3)]) hx hb dX4_windows_57 hl (by decide) rfl (fun ls hl => ?_)
              refine lv_iload hx hb dX4_windows_59 (lv_at hl 5 rfl) ?_
              refine lv_if_ne (tgt := 67) hx hb dX4_windows_61 (by decide) (fun c_15 => ?_) (fun c_15 => ?_)
              · have i_15 : ¬ p3.toInt = 0 := kc_ne c_15
                refine lv_aload_n hx hb dX4_windows_67 rfl (lv_at hl 1 rfl) ?_
                have hPc := hP.sub (ws' := [kx_4 m_ q_row q_t t_ h0 k0 w_ z_ slots old, kx_0 q_row q_cell len, kx_a q_cell cyI 160 f, kx_a w_ cyI 160 o_14]) [0, 1, 2, 6] rfl
                have hKc := hK
                refine vp_callSi (W.runV (As := []) (rest := []) ⟨hx, hb, hml, hown, hts⟩ (c_X4_kindOfMostWins l dC dI m_ q_row q_t t_ h0 k0 w_ z_ slots old q_cell cyI len f o_14 a0 a1) (cwV 0 hts gX4_windows_X4_kindOfMostWins rfl rfl rfl (by decide +kernel) ⟨Nat.le_of_ble_eq_true rfl, Nat.le_of_ble_eq_true rfl⟩) ⟨fun a U g mk q => by obtain ⟨q0, qP, qK⟩ := q; exact ⟨q0, qP, va_K.moved (u := U) (U := U.calling g mk a) (Vm.Alike.refl U.vm) qK⟩, kx_rc4 hKc hPc (q0 := 0) rfl, fun U hU hW => ⟨rfl, by rw [hU]; exact hPc, va_K.moved hW.alike hKc⟩⟩ rfl rfl hl.1 rfl (lv_room (Nat.le_of_ble_eq_true rfl)) dX4_windows_68 ⟨Nat.le_of_ble_eq_true rfl, Nat.le_of_ble_eq_true rfl⟩) (fun r_16 w_16 => ?_)
                have w_16 : (r_16.toInt = -1 ∨ (0 ≤ r_16.toInt ∧ r_16.toInt < len.toInt)) := w_16
                refine lv_istore (lv' := [(6, .int r_16), (5, .int r_9), (0, .ref m_), (1, .int p0), (2, .int p1), (3, .int p2), (4, .int p3)]) hx hb dX4_windows_71 hl (by decide) rfl (fun ls hl => ?_)
                refine lv_iload hx hb dX4_windows_73 (lv_at hl 0 rfl) ?_
                refine lv_iconst (v := (-1)) hx hb dX4_windows_75 (by decide) ?_
                refine lv_icmp_ne (tgt := 92) hx hb dX4_windows_76 (by decide) (fun c_17 => ?_) (fun c_17 => ?_)
                · have i_17 : ¬ r_16.toInt = (-1) := kc_ne c_17
                  refine lv_iload hx hb dX4_windows_92 (lv_at hl 6 rfl) ?_
                  refine lv_iconst (v := 1) hx hb dX4_windows_94 (by decide) ?_
                  refine lv_icmp_ne (tgt := 111) hx hb dX4_windows_95 (by decide) (fun c_18 => ?_) (fun c_18 => ?_)
                  · have i_18 : ¬ p3.toInt = 1 := kc_ne c_18
                    refine lv_aload_n hx hb dX4_windows_111 rfl (lv_at hl 2 rfl) ?_
                    refine va_get (D := (dC, dI)) (ci := 4) (v := .ref w_) (C := RX4) (T := TX4) (N := 9) hx hb hts hi_4 hown hK hP 0 rfl rfl 5 (by decide) hf_42 (fun _ h9 => h9) rfl dX4_windows_112 ?_
                    refine lv_iload hx hb dX4_windows_115 (lv_at hl 0 rfl) ?_
                    refine va_iald hx hb hK hP 6 0 rfl rfl (ki_in (by omega) (by omega)) dX4_windows_117 ?_
                    refine lv_topi (fun y_19 ey_19 => ?_)
                    have j_19 : y_19.toInt = (o_14 r_16.toNatClampNeg).toInt := congrArg Int32.toInt ey_19
                    have hP9 := hP
                    have hD9 := hD
                    have hK9 := hK
                    exact W.iret (v := y_19) hx hb hr (hlocks := hlocks) (fun t ht hW => ⟨⟨y_19, (o_10, o_11, o_12, o_13, o_14), rfl, trivial, by rw [ht]; exact hP9, va_K.moved hW.alike hK9, hD9⟩, hS.F ht⟩) hS.2.2 dX4_windows_118
                  · have i_18 : p3.toInt = 1 := kc_eq c_18
                    refine lv_aload_n hx hb dX4_windows_98 rfl (lv_at hl 2 rfl) ?_
                    refine va_get (D := (dC, dI)) (ci := 4) (v := .ref q_row) (C := RX4) (T := TX4) (N := 9) hx hb hts hi_4 hown hK hP 0 rfl rfl 0 (by decide) hf_12 (fun _ h9 => h9) rfl dX4_windows_99 ?_
                    refine va_get (D := (dC, dI)) (ci := 0) (v := .ref q_cell) (C := RX0) (T := TX0) (N := 2) hx hb hts hi_0 hown hK hP 1 rfl rfl 0 (by decide) hf_110 (fun _ h9 => h9) rfl dX4_windows_102 ?_
                    refine lv_iload hx hb dX4_windows_105 (lv_at hl 0 rfl) ?_
                    refine va_iald hx hb hK hP 2 0 rfl rfl (ki_in (by omega) (by omega)) dX4_windows_107 ?_
                    refine lv_topi (fun y_20 ey_20 => ?_)
                    have j_20 : y_20.toInt = (f r_16.toNatClampNeg).toInt := congrArg Int32.toInt ey_20
                    refine lv_goto (tgt := 118) hx hb dX4_windows_108 (by decide) ?_
                    have hP9 := hP
                    have hD9 := hD
                    have hK9 := hK
                    exact W.iret (v := y_20) hx hb hr (hlocks := hlocks) (fun t ht hW => ⟨⟨y_20, (o_10, o_11, o_12, o_13, o_14), rfl, trivial, by rw [ht]; exact hP9, va_K.moved hW.alike hK9, hD9⟩, hS.F ht⟩) hS.2.2 dX4_windows_118
                · have i_17 : r_16.toInt = (-1) := kc_eq c_17
                  refine lv_iload hx hb dX4_windows_79 (lv_at hl 6 rfl) ?_
                  refine lv_iconst (v := 1) hx hb dX4_windows_81 (by decide) ?_
                  refine lv_icmp_ne (tgt := 90) hx hb dX4_windows_82 (by decide) (fun c_21 => ?_) (fun c_21 => ?_)
                  · have i_21 : ¬ p3.toInt = 1 := kc_ne c_21
                    refine lv_iconst (v := 0) hx hb dX4_windows_90 (by decide) ?_
                    have hP9 := hP
                    have hD9 := hD
                    have hK9 := hK
                    exact W.iret (v := 0) hx hb hr (hlocks := hlocks) (fun t ht hW => ⟨⟨0, (o_10, o_11, o_12, o_13, o_14), rfl, trivial, by rw [ht]; exact hP9, va_K.moved hW.alike hK9, hD9⟩, hS.F ht⟩) hS.2.2 dX4_windows_91
                  · have i_21 : p3.toInt = 1 := kc_eq c_21
                    refine lv_ldc (v := (-40000)) hx hb hown hk_102 dX4_windows_85 ?_
                    refine lv_goto (tgt := 91) hx hb dX4_windows_87 (by decide) ?_
                    have hP9 := hP
                    have hD9 := hD
                    have hK9 := hK
                    exact W.iret (v := (-40000)) hx hb hr (hlocks := hlocks) (fun t ht hW => ⟨⟨(-40000), (o_10, o_11, o_12, o_13, o_14), rfl, trivial, by rw [ht]; exact hP9, va_K.moved hW.alike hK9, hD9⟩, hS.F ht⟩) hS.2.2 dX4_windows_91
              · have i_15 : p3.toInt = 0 := kc_eq c_15
                refine lv_iload hx hb dX4_windows_64 (lv_at hl 0 rfl) ?_
                have hP9 := hP
                have hD9 := hD
                have hK9 := hK
                exact W.iret (v := r_9) hx hb hr (hlocks := hlocks) (fun t ht hW => ⟨⟨r_9, (o_10, o_11, o_12, o_13, o_14), rfl, trivial, by rw [ht]; exact hP9, va_K.moved hW.alike hK9, hD9⟩, hS.F ht⟩) hS.2.2 dX4_windows_66
            · exact absurd c_8 (by decide)
          · have w_7 : (p1.toInt < 1 ∨ p2.toInt < p1.toInt ∨ 999 < p2.toInt) := w_7
            refine lv_if_ne (tgt := 50) hx hb dX4_windows_34 (by decide) (fun c_22 => ?_) (fun c_22 => ?_)
            · exact absurd c_22 (by decide)
            · refine lv_iload hx hb dX4_windows_37 (lv_at hl 4 rfl) ?_
              refine lv_iconst (v := 1) hx hb dX4_windows_39 (by decide) ?_
              refine lv_icmp_ne (tgt := 48) hx hb dX4_windows_40 (by decide) (fun c_23 => ?_) (fun c_23 => ?_)
              · have i_23 : ¬ p3.toInt = 1 := kc_ne c_23
                refine lv_iconst (v := (-1)) hx hb dX4_windows_48 (by decide) ?_
                have hP9 := hP
                have hD9 := hD
                have hK9 := hK
                exact W.iret (v := (-1)) hx hb hr (hlocks := hlocks) (fun t ht hW => ⟨⟨(-1), (tk, mo, fk, fq, fw), rfl, trivial, by rw [ht]; exact hP9, va_K.moved hW.alike hK9, hD9⟩, hS.F ht⟩) hS.2.2 dX4_windows_49
              · have i_23 : p3.toInt = 1 := kc_eq c_23
                refine lv_ldc (v := (-40000)) hx hb hown hk_102 dX4_windows_43 ?_
                refine lv_goto (tgt := 49) hx hb dX4_windows_45 (by decide) ?_
                have hP9 := hP
                have hD9 := hD
                have hK9 := hK
                exact W.iret (v := (-40000)) hx hb hr (hlocks := hlocks) (fun t ht hW => ⟨⟨(-40000), (tk, mo, fk, fq, fw), rfl, trivial, by rw [ht]; exact hP9, va_K.moved hW.alike hK9, hD9⟩, hS.F ht⟩) hS.2.2 dX4_windows_49
    · have i_2 : 2 < p3.toInt := kc_nle c_2
      refine lv_iconst (v := (-1)) hx hb dX4_windows_11 (by decide) ?_
      have hP9 := hP
      have hD9 := hD
      have hK9 := hK
      exact W.iret (v := (-1)) hx hb hr (hlocks := hlocks) (fun t ht hW => ⟨⟨(-1), (tk, mo, fk, fq, fw), rfl, trivial, by rw [ht]; exact hP9, va_K.moved hW.alike hK9, hD9⟩, hS.F ht⟩) hS.2.2 dX4_windows_12


