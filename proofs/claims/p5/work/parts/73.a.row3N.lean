abbrev cX4_count : ByteArray := prog_1_method_12_code
def yX4_count : MethodName := ⟨RX4, "count", "(III)I"⟩
abbrev cX4_place : ByteArray := prog_1_method_13_code
def yX4_place : MethodName := ⟨RX4, "place", "(II)I"⟩
abbrev cX4_values : ByteArray := prog_1_method_14_code
def yX4_values : MethodName := ⟨RX4, "values", "()I"⟩
abbrev cX4_majority : ByteArray := prog_1_method_31_code
def yX4_majority : MethodName := ⟨RX4, "majority", "(II)I"⟩
abbrev cX4_margin : ByteArray := prog_1_method_32_code
def yX4_margin : MethodName := ⟨RX4, "margin", "(III)I"⟩
abbrev cX4_longest : ByteArray := prog_1_method_35_code
def yX4_longest : MethodName := ⟨RX4, "longest", "(IIII)I"⟩
abbrev cX4_reach : ByteArray := prog_1_method_36_code
def yX4_reach : MethodName := ⟨RX4, "reach", "(I)I"⟩
abbrev cX4_parted : ByteArray := prog_1_method_37_code
def yX4_parted : MethodName := ⟨RX4, "parted", "(II)I"⟩
abbrev cX4_cut : ByteArray := prog_1_method_38_code
def yX4_cut : MethodName := ⟨RX4, "cut", "(II)I"⟩
abbrev cX4_majorities : ByteArray := prog_1_method_39_code
def yX4_majorities : MethodName := ⟨RX4, "majorities", "()I"⟩
abbrev cX4_windows : ByteArray := prog_1_method_40_code
def yX4_windows : MethodName := ⟨RX4, "windows", "(IIII)I"⟩
abbrev cX4_needs : ByteArray := prog_1_method_41_code
def yX4_needs : MethodName := ⟨RX4, "needs", "(IIIII)I"⟩
abbrev cX4_spares : ByteArray := prog_1_method_42_code
def yX4_spares : MethodName := ⟨RX4, "spares", "(IIIII)I"⟩
abbrev cX4_would : ByteArray := prog_1_method_43_code
def yX4_would : MethodName := ⟨RX4, "would", "(IIII)I"⟩
abbrev cX4_mostWithoutHeavy : ByteArray := prog_1_method_50_code
def yX4_mostWithoutHeavy : MethodName := ⟨RX4, "mostWithoutHeavy", "(III)I"⟩
abbrev cX4_farthestHeavy : ByteArray := prog_1_method_58_code
def yX4_farthestHeavy : MethodName := ⟨RX4, "farthestHeavy", "(IIII)I"⟩
abbrev cX4_slideWindow : ByteArray := prog_1_method_59_code
def yX4_slideWindow : MethodName := ⟨RX4, "slideWindow", "(III)I"⟩
abbrev cX4_creditHeavy : ByteArray := prog_1_method_60_code
def yX4_creditHeavy : MethodName := ⟨RX4, "creditHeavy", "(III)Z"⟩
abbrev cX4_kindOfMostWins : ByteArray := prog_1_method_61_code
def yX4_kindOfMostWins : MethodName := ⟨RX4, "kindOfMostWins", "()I"⟩
def wsX4_count : List Cond := .code yX4_count cX4_count 4 (some .int) :: ([.fieldLink RX4 12 "MajorityIndex" "row" "LMajorityIndex$Row;", .methodLink RX4 68 yX4_isValue, .static yX4_isValue, .initialized RX4, .code yX4_isValue cX4_isValue 1 (some .boolean), .methodLink RX4 79 yX0_hasRange, .instanceMethod yX0_hasRange, .selects RX0 yX0_hasRange yX0_hasRange, .initialized RX0, .code yX0_hasRange cX0_hasRange 3 (some .boolean), .fieldLink RX0 15 "MajorityIndex$Row" "length" "I", .methodLink RX4 113 yX0_oftenIn, .instanceMethod yX0_oftenIn, .selects RX0 yX0_oftenIn yX0_oftenIn, .code yX0_oftenIn cX0_oftenIn 6 (some .int), .fieldLink RX0 9 "MajorityIndex$Row" "cell" "[I"] ++ wsX40 ++ wsX00)
def wsX4_place : List Cond := .code yX4_place cX4_place 5 (some .int) :: ([.fieldLink RX4 12 "MajorityIndex" "row" "LMajorityIndex$Row;", .fieldLink RX4 57 "MajorityIndex$Row" "length" "I", .fieldLink RX4 110 "MajorityIndex$Row" "cell" "[I"] ++ wsX40 ++ wsX00)
def wsX4_values : List Cond := .code yX4_values cX4_values 3 (some .int) :: ([.fieldLink RX4 28 "MajorityIndex" "tally" "LMajorityIndex$Tally;", .fieldLink RX4 12 "MajorityIndex" "row" "LMajorityIndex$Row;", .fieldLink RX4 57 "MajorityIndex$Row" "length" "I", .fieldLink RX4 120 "MajorityIndex$Tally" "kind" "[I", .methodLink RX4 117 yX1_learn, .instanceMethod yX1_learn, .selects RX1 yX1_learn yX1_learn, .initialized RX1, .code yX1_learn cX1_learn 3 none, .fieldLink RX1 18 "MajorityIndex$Row" "length" "I", .fieldLink RX1 9 "MajorityIndex$Tally" "kind" "[I", .methodLink RX1 24 yX0_firstLike, .instanceMethod yX0_firstLike, .selects RX0 yX0_firstLike yX0_firstLike, .initialized RX0, .code yX0_firstLike cX0_firstLike 3 (some .int), .fieldLink RX0 9 "MajorityIndex$Row" "cell" "[I"] ++ wsX40 ++ wsX00 ++ wsX10)
def wsX4_majority : List Cond := .code yX4_majority cX4_majority 3 (some .int) :: ([.fieldLink RX4 12 "MajorityIndex" "row" "LMajorityIndex$Row;", .constant RX4 102 (-40000), .methodLink RX4 79 yX0_hasRange, .instanceMethod yX0_hasRange, .selects RX0 yX0_hasRange yX0_hasRange, .initialized RX0, .code yX0_hasRange cX0_hasRange 3 (some .boolean), .fieldLink RX0 15 "MajorityIndex$Row" "length" "I", .methodLink RX4 207 yX0_leader, .instanceMethod yX0_leader, .selects RX0 yX0_leader yX0_leader, .code yX0_leader cX0_leader 6 (some .int), .constant RX0 23 (-40000), .fieldLink RX0 9 "MajorityIndex$Row" "cell" "[I", .methodLink RX0 24 yX0_oftenIn, .instanceMethod yX0_oftenIn, .selects RX0 yX0_oftenIn yX0_oftenIn, .code yX0_oftenIn cX0_oftenIn 6 (some .int), .static yX4_isHeavy, .initialized RX4, .code yX4_isHeavy cX4_isHeavy 4 (some .boolean)] ++ wsX40 ++ wsX00)
def wsX4_margin : List Cond := .code yX4_margin cX4_margin 4 (some .int) :: ([.fieldLink RX4 12 "MajorityIndex" "row" "LMajorityIndex$Row;", .constant RX4 102 (-40000), .methodLink RX4 68 yX4_isValue, .static yX4_isValue, .initialized RX4, .code yX4_isValue cX4_isValue 1 (some .boolean), .methodLink RX4 79 yX0_hasRange, .instanceMethod yX0_hasRange, .selects RX0 yX0_hasRange yX0_hasRange, .initialized RX0, .code yX0_hasRange cX0_hasRange 3 (some .boolean), .fieldLink RX0 15 "MajorityIndex$Row" "length" "I", .methodLink RX4 113 yX0_oftenIn, .instanceMethod yX0_oftenIn, .selects RX0 yX0_oftenIn yX0_oftenIn, .code yX0_oftenIn cX0_oftenIn 6 (some .int), .fieldLink RX0 9 "MajorityIndex$Row" "cell" "[I"] ++ wsX40 ++ wsX00)
def wsX4_farthestHeavy : List Cond := .code yX4_farthestHeavy cX4_farthestHeavy 8 (some .int) :: ([.fieldLink RX4 12 "MajorityIndex" "row" "LMajorityIndex$Row;", .fieldLink RX4 57 "MajorityIndex$Row" "length" "I", .fieldLink RX4 110 "MajorityIndex$Row" "cell" "[I", .methodLink RX4 273 yX4_isHeavy, .static yX4_isHeavy, .initialized RX4, .code yX4_isHeavy cX4_isHeavy 4 (some .boolean)] ++ wsX40 ++ wsX00)
def wsX4_longest : List Cond := .code yX4_longest cX4_longest 9 (some .int) :: ([.fieldLink RX4 12 "MajorityIndex" "row" "LMajorityIndex$Row;", .fieldLink RX4 57 "MajorityIndex$Row" "length" "I", .methodLink RX4 68 yX4_isValue, .static yX4_isValue, .initialized RX4, .code yX4_isValue cX4_isValue 1 (some .boolean), .methodLink RX4 186 yX4_isShare, .static yX4_isShare, .code yX4_isShare cX4_isShare 2 (some .boolean), .methodLink RX4 218 yX4_farthestHeavy, .instanceMethod yX4_farthestHeavy, .selects RX4 yX4_farthestHeavy yX4_farthestHeavy, .code yX4_farthestHeavy cX4_farthestHeavy 8 (some .int), .fieldLink RX4 110 "MajorityIndex$Row" "cell" "[I", .methodLink RX4 273 yX4_isHeavy, .static yX4_isHeavy, .code yX4_isHeavy cX4_isHeavy 4 (some .boolean)] ++ wsX40 ++ wsX00)
def wsX4_reach_r1 : List Cond := [Cond.fieldLink RX4 12 "MajorityIndex" "row" "LMajorityIndex$Row;", Cond.fieldLink RX4 28 "MajorityIndex" "tally" "LMajorityIndex$Tally;", Cond.fieldLink RX4 57 "MajorityIndex$Row" "length" "I", Cond.methodLink RX4 64 yX0_hasPlace, Cond.instanceMethod yX0_hasPlace, Cond.selects RX0 yX0_hasPlace yX0_hasPlace, Cond.initialized RX0, Cond.code yX0_hasPlace cX0_hasPlace 2 (some .boolean), Cond.fieldLink RX0 15 "MajorityIndex$Row" "length" "I", Cond.methodLink RX4 117 yX1_learn, Cond.instanceMethod yX1_learn, Cond.selects RX1 yX1_learn yX1_learn, Cond.initialized RX1, Cond.code yX1_learn cX1_learn 3 none, Cond.fieldLink RX1 18 "MajorityIndex$Row" "length" "I", Cond.fieldLink RX1 9 "MajorityIndex$Tally" "kind" "[I", Cond.methodLink RX1 24 yX0_firstLike, Cond.instanceMethod yX0_firstLike, Cond.selects RX0 yX0_firstLike yX0_firstLike, Cond.code yX0_firstLike cX0_firstLike 3 (some .int), Cond.fieldLink RX0 9 "MajorityIndex$Row" "cell" "[I", Cond.methodLink RX4 221 yX1_clear, Cond.instanceMethod yX1_clear, Cond.selects RX1 yX1_clear yX1_clear]
def wsX4_reach_r2 : List Cond := [Cond.code yX1_clear cX1_clear 1 none, Cond.fieldLink RX1 15 "MajorityIndex$Tally" "often" "[I", Cond.fieldLink RX1 34 "MajorityIndex$Tally" "taken" "I", Cond.fieldLink RX1 37 "MajorityIndex$Tally" "most" "I", Cond.methodLink RX1 28 yJ7_fill_53178, Cond.static yJ7_fill_53178, Cond.initialized RJ7, Cond.code yJ7_fill_53178 cJ7_fill_53178 4 none, Cond.methodLink RX4 224 yX1_take, Cond.instanceMethod yX1_take, Cond.selects RX1 yX1_take yX1_take, Cond.code yX1_take cX1_take 3 none, Cond.methodLink RX4 227 yX1_hasMajority, Cond.instanceMethod yX1_hasMajority, Cond.selects RX1 yX1_hasMajority yX1_hasMajority, Cond.code yX1_hasMajority cX1_hasMajority 1 (some .boolean)]
def wsX4_reach : List Cond := .code yX4_reach cX4_reach 4 (some .int) :: ((wsX4_reach_r1 ++ wsX4_reach_r2) ++ wsX40 ++ wsX00 ++ wsX10)
def wsX4_parted_r1 : List Cond := [Cond.fieldLink RX4 12 "MajorityIndex" "row" "LMajorityIndex$Row;", Cond.fieldLink RX4 28 "MajorityIndex" "tally" "LMajorityIndex$Tally;", Cond.fieldLink RX4 46 "MajorityIndex" "fewest" "[I", Cond.methodLink RX4 91 Lib.Math.min.name, Cond.static Lib.Math.min.name, Cond.initialized "java/lang/Math", Cond.code Lib.Math.min.name Lib.Math.min.code 2 (some .int), Cond.methodLink RX4 79 yX0_hasRange, Cond.instanceMethod yX0_hasRange, Cond.selects RX0 yX0_hasRange yX0_hasRange, Cond.initialized RX0, Cond.code yX0_hasRange cX0_hasRange 3 (some .boolean), Cond.fieldLink RX0 15 "MajorityIndex$Row" "length" "I", Cond.methodLink RX4 117 yX1_learn, Cond.instanceMethod yX1_learn, Cond.selects RX1 yX1_learn yX1_learn, Cond.initialized RX1, Cond.code yX1_learn cX1_learn 3 none, Cond.fieldLink RX1 18 "MajorityIndex$Row" "length" "I", Cond.fieldLink RX1 9 "MajorityIndex$Tally" "kind" "[I", Cond.methodLink RX1 24 yX0_firstLike, Cond.instanceMethod yX0_firstLike, Cond.selects RX0 yX0_firstLike yX0_firstLike, Cond.code yX0_firstLike cX0_firstLike 3 (some .int)]
def wsX4_parted_r2 : List Cond := [Cond.fieldLink RX0 9 "MajorityIndex$Row" "cell" "[I", Cond.methodLink RX4 231 yJ7_fill_53178, Cond.static yJ7_fill_53178, Cond.initialized RJ7, Cond.code yJ7_fill_53178 cJ7_fill_53178 4 none, Cond.methodLink RX4 221 yX1_clear, Cond.instanceMethod yX1_clear, Cond.selects RX1 yX1_clear yX1_clear, Cond.code yX1_clear cX1_clear 1 none, Cond.fieldLink RX1 15 "MajorityIndex$Tally" "often" "[I", Cond.fieldLink RX1 34 "MajorityIndex$Tally" "taken" "I", Cond.fieldLink RX1 37 "MajorityIndex$Tally" "most" "I", Cond.methodLink RX1 28 yJ7_fill_53178, Cond.methodLink RX4 224 yX1_take, Cond.instanceMethod yX1_take, Cond.selects RX1 yX1_take yX1_take, Cond.code yX1_take cX1_take 3 none, Cond.methodLink RX4 227 yX1_hasMajority, Cond.instanceMethod yX1_hasMajority, Cond.selects RX1 yX1_hasMajority yX1_hasMajority, Cond.code yX1_hasMajority cX1_hasMajority 1 (some .boolean)]
def wsX4_parted : List Cond := .code yX4_parted cX4_parted 5 (some .int) :: ((wsX4_parted_r1 ++ wsX4_parted_r2) ++ wsX40 ++ wsX00 ++ wsX10)
def wsX4_cut : List Cond := .code yX4_cut cX4_cut 6 (some .int) :: ([.fieldLink RX4 12 "MajorityIndex" "row" "LMajorityIndex$Row;", .constant RX4 102 (-40000), .methodLink RX4 79 yX0_hasRange, .instanceMethod yX0_hasRange, .selects RX0 yX0_hasRange yX0_hasRange, .initialized RX0, .code yX0_hasRange cX0_hasRange 3 (some .boolean), .fieldLink RX0 15 "MajorityIndex$Row" "length" "I", .methodLink RX4 207 yX0_leader, .instanceMethod yX0_leader, .selects RX0 yX0_leader yX0_leader, .code yX0_leader cX0_leader 6 (some .int), .constant RX0 23 (-40000), .fieldLink RX0 9 "MajorityIndex$Row" "cell" "[I", .methodLink RX0 24 yX0_oftenIn, .instanceMethod yX0_oftenIn, .selects RX0 yX0_oftenIn yX0_oftenIn, .code yX0_oftenIn cX0_oftenIn 6 (some .int), .static yX4_isHeavy, .initialized RX4, .code yX4_isHeavy cX4_isHeavy 4 (some .boolean)] ++ wsX40 ++ wsX00)
def wsX4_majorities_r1 : List Cond := [Cond.fieldLink RX4 28 "MajorityIndex" "tally" "LMajorityIndex$Tally;", Cond.fieldLink RX4 12 "MajorityIndex" "row" "LMajorityIndex$Row;", Cond.fieldLink RX4 57 "MajorityIndex$Row" "length" "I", Cond.methodLink RX4 117 yX1_learn, Cond.instanceMethod yX1_learn, Cond.selects RX1 yX1_learn yX1_learn, Cond.initialized RX1, Cond.code yX1_learn cX1_learn 3 none, Cond.fieldLink RX1 18 "MajorityIndex$Row" "length" "I", Cond.fieldLink RX1 9 "MajorityIndex$Tally" "kind" "[I", Cond.methodLink RX1 24 yX0_firstLike, Cond.instanceMethod yX0_firstLike, Cond.selects RX0 yX0_firstLike yX0_firstLike, Cond.initialized RX0, Cond.code yX0_firstLike cX0_firstLike 3 (some .int), Cond.fieldLink RX0 9 "MajorityIndex$Row" "cell" "[I", Cond.methodLink RX4 221 yX1_clear, Cond.instanceMethod yX1_clear, Cond.selects RX1 yX1_clear yX1_clear, Cond.code yX1_clear cX1_clear 1 none, Cond.fieldLink RX1 15 "MajorityIndex$Tally" "often" "[I", Cond.fieldLink RX1 34 "MajorityIndex$Tally" "taken" "I", Cond.fieldLink RX1 37 "MajorityIndex$Tally" "most" "I", Cond.methodLink RX1 28 yJ7_fill_53178]
def wsX4_majorities_r2 : List Cond := [Cond.static yJ7_fill_53178, Cond.initialized RJ7, Cond.code yJ7_fill_53178 cJ7_fill_53178 4 none, Cond.methodLink RX4 224 yX1_take, Cond.instanceMethod yX1_take, Cond.selects RX1 yX1_take yX1_take, Cond.code yX1_take cX1_take 3 none, Cond.methodLink RX4 227 yX1_hasMajority, Cond.instanceMethod yX1_hasMajority, Cond.selects RX1 yX1_hasMajority yX1_hasMajority, Cond.code yX1_hasMajority cX1_hasMajority 1 (some .boolean)]
def wsX4_majorities : List Cond := .code yX4_majorities cX4_majorities 4 (some .int) :: ((wsX4_majorities_r1 ++ wsX4_majorities_r2) ++ wsX40 ++ wsX00 ++ wsX10)
def wsX4_creditHeavy : List Cond := .code yX4_creditHeavy cX4_creditHeavy 6 (some .boolean) :: ([.fieldLink RX4 12 "MajorityIndex" "row" "LMajorityIndex$Row;", .fieldLink RX4 57 "MajorityIndex$Row" "length" "I", .fieldLink RX4 28 "MajorityIndex" "tally" "LMajorityIndex$Tally;", .fieldLink RX4 283 "MajorityIndex$Tally" "often" "[I", .fieldLink RX4 42 "MajorityIndex" "wins" "[I", .methodLink RX4 273 yX4_isHeavy, .static yX4_isHeavy, .initialized RX4, .code yX4_isHeavy cX4_isHeavy 4 (some .boolean)] ++ wsX40 ++ wsX00 ++ wsX10)
def wsX4_slideWindow_r1 : List Cond := [Cond.fieldLink RX4 28 "MajorityIndex" "tally" "LMajorityIndex$Tally;", Cond.fieldLink RX4 12 "MajorityIndex" "row" "LMajorityIndex$Row;", Cond.fieldLink RX4 42 "MajorityIndex" "wins" "[I", Cond.fieldLink RX4 57 "MajorityIndex$Row" "length" "I", Cond.methodLink RX4 117 yX1_learn, Cond.instanceMethod yX1_learn, Cond.selects RX1 yX1_learn yX1_learn, Cond.initialized RX1, Cond.code yX1_learn cX1_learn 3 none, Cond.fieldLink RX1 18 "MajorityIndex$Row" "length" "I", Cond.fieldLink RX1 9 "MajorityIndex$Tally" "kind" "[I", Cond.methodLink RX1 24 yX0_firstLike, Cond.instanceMethod yX0_firstLike, Cond.selects RX0 yX0_firstLike yX0_firstLike, Cond.initialized RX0, Cond.code yX0_firstLike cX0_firstLike 3 (some .int), Cond.fieldLink RX0 9 "MajorityIndex$Row" "cell" "[I", Cond.methodLink RX4 221 yX1_clear, Cond.instanceMethod yX1_clear, Cond.selects RX1 yX1_clear yX1_clear, Cond.code yX1_clear cX1_clear 1 none, Cond.fieldLink RX1 15 "MajorityIndex$Tally" "often" "[I", Cond.fieldLink RX1 34 "MajorityIndex$Tally" "taken" "I", Cond.fieldLink RX1 37 "MajorityIndex$Tally" "most" "I"]
def wsX4_slideWindow_r2 : List Cond := [Cond.methodLink RX1 28 yJ7_fill_53178, Cond.static yJ7_fill_53178, Cond.initialized RJ7, Cond.code yJ7_fill_53178 cJ7_fill_53178 4 none, Cond.methodLink RX4 231 yJ7_fill_53178, Cond.methodLink RX4 224 yX1_take, Cond.instanceMethod yX1_take, Cond.selects RX1 yX1_take yX1_take, Cond.code yX1_take cX1_take 3 none, Cond.methodLink RX4 277 yX1_drop, Cond.instanceMethod yX1_drop, Cond.selects RX1 yX1_drop yX1_drop, Cond.code yX1_drop cX1_drop 2 none, Cond.methodLink RX4 280 yX4_creditHeavy, Cond.instanceMethod yX4_creditHeavy, Cond.selects RX4 yX4_creditHeavy yX4_creditHeavy, Cond.initialized RX4, Cond.code yX4_creditHeavy cX4_creditHeavy 6 (some .boolean), Cond.fieldLink RX4 283 "MajorityIndex$Tally" "often" "[I", Cond.methodLink RX4 273 yX4_isHeavy, Cond.static yX4_isHeavy, Cond.code yX4_isHeavy cX4_isHeavy 4 (some .boolean)]
def wsX4_slideWindow : List Cond := .code yX4_slideWindow cX4_slideWindow 6 (some .int) :: ((wsX4_slideWindow_r1 ++ wsX4_slideWindow_r2) ++ wsX40 ++ wsX00 ++ wsX10)
def wsX4_kindOfMostWins : List Cond := .code yX4_kindOfMostWins cX4_kindOfMostWins 5 (some .int) :: ([.fieldLink RX4 12 "MajorityIndex" "row" "LMajorityIndex$Row;", .fieldLink RX4 57 "MajorityIndex$Row" "length" "I", .fieldLink RX4 42 "MajorityIndex" "wins" "[I", .fieldLink RX4 110 "MajorityIndex$Row" "cell" "[I"] ++ wsX40 ++ wsX00)
def wsX4_windows_r1 : List Cond := [Cond.fieldLink RX4 12 "MajorityIndex" "row" "LMajorityIndex$Row;", Cond.fieldLink RX4 57 "MajorityIndex$Row" "length" "I", Cond.constant RX4 102 (-40000), Cond.fieldLink RX4 110 "MajorityIndex$Row" "cell" "[I", Cond.fieldLink RX4 42 "MajorityIndex" "wins" "[I", Cond.methodLink RX4 186 yX4_isShare, Cond.static yX4_isShare, Cond.initialized RX4, Cond.code yX4_isShare cX4_isShare 2 (some .boolean), Cond.methodLink RX4 237 yX4_slideWindow, Cond.instanceMethod yX4_slideWindow, Cond.selects RX4 yX4_slideWindow yX4_slideWindow, Cond.code yX4_slideWindow cX4_slideWindow 6 (some .int), Cond.fieldLink RX4 28 "MajorityIndex" "tally" "LMajorityIndex$Tally;", Cond.methodLink RX4 117 yX1_learn, Cond.instanceMethod yX1_learn, Cond.selects RX1 yX1_learn yX1_learn, Cond.initialized RX1, Cond.code yX1_learn cX1_learn 3 none, Cond.fieldLink RX1 18 "MajorityIndex$Row" "length" "I", Cond.fieldLink RX1 9 "MajorityIndex$Tally" "kind" "[I", Cond.methodLink RX1 24 yX0_firstLike, Cond.instanceMethod yX0_firstLike, Cond.selects RX0 yX0_firstLike yX0_firstLike]
def wsX4_windows_r2 : List Cond := [Cond.initialized RX0, Cond.code yX0_firstLike cX0_firstLike 3 (some .int), Cond.fieldLink RX0 9 "MajorityIndex$Row" "cell" "[I", Cond.methodLink RX4 221 yX1_clear, Cond.instanceMethod yX1_clear, Cond.selects RX1 yX1_clear yX1_clear, Cond.code yX1_clear cX1_clear 1 none, Cond.fieldLink RX1 15 "MajorityIndex$Tally" "often" "[I", Cond.fieldLink RX1 34 "MajorityIndex$Tally" "taken" "I", Cond.fieldLink RX1 37 "MajorityIndex$Tally" "most" "I", Cond.methodLink RX1 28 yJ7_fill_53178, Cond.static yJ7_fill_53178, Cond.initialized RJ7, Cond.code yJ7_fill_53178 cJ7_fill_53178 4 none, Cond.methodLink RX4 231 yJ7_fill_53178, Cond.methodLink RX4 224 yX1_take, Cond.instanceMethod yX1_take, Cond.selects RX1 yX1_take yX1_take, Cond.code yX1_take cX1_take 3 none, Cond.methodLink RX4 277 yX1_drop, Cond.instanceMethod yX1_drop, Cond.selects RX1 yX1_drop yX1_drop, Cond.code yX1_drop cX1_drop 2 none, Cond.methodLink RX4 280 yX4_creditHeavy]
def wsX4_windows_r3 : List Cond := [Cond.instanceMethod yX4_creditHeavy, Cond.selects RX4 yX4_creditHeavy yX4_creditHeavy, Cond.code yX4_creditHeavy cX4_creditHeavy 6 (some .boolean), Cond.fieldLink RX4 283 "MajorityIndex$Tally" "often" "[I", Cond.methodLink RX4 273 yX4_isHeavy, Cond.static yX4_isHeavy, Cond.code yX4_isHeavy cX4_isHeavy 4 (some .boolean), Cond.methodLink RX4 240 yX4_kindOfMostWins, Cond.instanceMethod yX4_kindOfMostWins, Cond.selects RX4 yX4_kindOfMostWins yX4_kindOfMostWins, Cond.code yX4_kindOfMostWins cX4_kindOfMostWins 5 (some .int)]
def wsX4_windows : List Cond := .code yX4_windows cX4_windows 7 (some .int) :: ((wsX4_windows_r1 ++ (wsX4_windows_r2 ++ wsX4_windows_r3)) ++ wsX40 ++ wsX00 ++ wsX10)
def wsX4_mostWithoutHeavy : List Cond := .code yX4_mostWithoutHeavy cX4_mostWithoutHeavy 3 (some .int) :: ([])
def wsX4_needs_r1 : List Cond := [Cond.fieldLink RX4 12 "MajorityIndex" "row" "LMajorityIndex$Row;", Cond.methodLink RX4 96 Lib.Math.max.name, Cond.static Lib.Math.max.name, Cond.initialized "java/lang/Math", Cond.code Lib.Math.max.name Lib.Math.max.code 2 (some .int), Cond.methodLink RX4 68 yX4_isValue, Cond.static yX4_isValue, Cond.initialized RX4, Cond.code yX4_isValue cX4_isValue 1 (some .boolean), Cond.methodLink RX4 79 yX0_hasRange, Cond.instanceMethod yX0_hasRange, Cond.selects RX0 yX0_hasRange yX0_hasRange, Cond.initialized RX0, Cond.code yX0_hasRange cX0_hasRange 3 (some .boolean), Cond.fieldLink RX0 15 "MajorityIndex$Row" "length" "I", Cond.methodLink RX4 186 yX4_isShare, Cond.static yX4_isShare, Cond.code yX4_isShare cX4_isShare 2 (some .boolean), Cond.methodLink RX4 243 yX4_mostWithoutHeavy, Cond.static yX4_mostWithoutHeavy, Cond.code yX4_mostWithoutHeavy cX4_mostWithoutHeavy 3 (some .int), Cond.methodLink RX4 113 yX0_oftenIn, Cond.instanceMethod yX0_oftenIn, Cond.selects RX0 yX0_oftenIn yX0_oftenIn]
def wsX4_needs_r2 : List Cond := [Cond.code yX0_oftenIn cX0_oftenIn 6 (some .int), Cond.fieldLink RX0 9 "MajorityIndex$Row" "cell" "[I"]
def wsX4_needs : List Cond := .code yX4_needs cX4_needs 7 (some .int) :: ((wsX4_needs_r1 ++ wsX4_needs_r2) ++ wsX40 ++ wsX00)
def wsX4_spares_r1 : List Cond := [Cond.fieldLink RX4 12 "MajorityIndex" "row" "LMajorityIndex$Row;", Cond.methodLink RX4 96 Lib.Math.max.name, Cond.static Lib.Math.max.name, Cond.initialized "java/lang/Math", Cond.code Lib.Math.max.name Lib.Math.max.code 2 (some .int), Cond.methodLink RX4 68 yX4_isValue, Cond.static yX4_isValue, Cond.initialized RX4, Cond.code yX4_isValue cX4_isValue 1 (some .boolean), Cond.methodLink RX4 79 yX0_hasRange, Cond.instanceMethod yX0_hasRange, Cond.selects RX0 yX0_hasRange yX0_hasRange, Cond.initialized RX0, Cond.code yX0_hasRange cX0_hasRange 3 (some .boolean), Cond.fieldLink RX0 15 "MajorityIndex$Row" "length" "I", Cond.methodLink RX4 186 yX4_isShare, Cond.static yX4_isShare, Cond.code yX4_isShare cX4_isShare 2 (some .boolean), Cond.methodLink RX4 113 yX0_oftenIn, Cond.instanceMethod yX0_oftenIn, Cond.selects RX0 yX0_oftenIn yX0_oftenIn, Cond.code yX0_oftenIn cX0_oftenIn 6 (some .int), Cond.fieldLink RX0 9 "MajorityIndex$Row" "cell" "[I", Cond.methodLink RX4 243 yX4_mostWithoutHeavy]
def wsX4_spares_r2 : List Cond := [Cond.static yX4_mostWithoutHeavy, Cond.code yX4_mostWithoutHeavy cX4_mostWithoutHeavy 3 (some .int)]
def wsX4_spares : List Cond := .code yX4_spares cX4_spares 6 (some .int) :: ((wsX4_spares_r1 ++ wsX4_spares_r2) ++ wsX40 ++ wsX00)
def wsX4_would_r1 : List Cond := [Cond.fieldLink RX4 12 "MajorityIndex" "row" "LMajorityIndex$Row;", Cond.constant RX4 102 (-40000), Cond.fieldLink RX4 110 "MajorityIndex$Row" "cell" "[I", Cond.methodLink RX4 64 yX0_hasPlace, Cond.instanceMethod yX0_hasPlace, Cond.selects RX0 yX0_hasPlace yX0_hasPlace, Cond.initialized RX0, Cond.code yX0_hasPlace cX0_hasPlace 2 (some .boolean), Cond.fieldLink RX0 15 "MajorityIndex$Row" "length" "I", Cond.methodLink RX4 68 yX4_isValue, Cond.static yX4_isValue, Cond.initialized RX4, Cond.code yX4_isValue cX4_isValue 1 (some .boolean), Cond.methodLink RX4 79 yX0_hasRange, Cond.instanceMethod yX0_hasRange, Cond.selects RX0 yX0_hasRange yX0_hasRange, Cond.code yX0_hasRange cX0_hasRange 3 (some .boolean), Cond.methodLink RX4 207 yX0_leader, Cond.instanceMethod yX0_leader, Cond.selects RX0 yX0_leader yX0_leader, Cond.code yX0_leader cX0_leader 6 (some .int), Cond.constant RX0 23 (-40000), Cond.fieldLink RX0 9 "MajorityIndex$Row" "cell" "[I", Cond.methodLink RX0 24 yX0_oftenIn]
def wsX4_would_r2 : List Cond := [Cond.instanceMethod yX0_oftenIn, Cond.selects RX0 yX0_oftenIn yX0_oftenIn, Cond.code yX0_oftenIn cX0_oftenIn 6 (some .int), Cond.static yX4_isHeavy, Cond.code yX4_isHeavy cX4_isHeavy 4 (some .boolean)]
def wsX4_would : List Cond := .code yX4_would cX4_would 7 (some .int) :: ((wsX4_would_r1 ++ wsX4_would_r2) ++ wsX40 ++ wsX00)
set_option maxRecDepth 20000 in
theorem ggX4_count_X4_isValue : GoodIn wsX4_count wsX4_isValue := goodIn_r _ [5] rfl (by decide +kernel)
set_option maxRecDepth 20000 in
theorem gX4_count_X4_isValue : GoodIn wsX4_count (va_wsS RX4 68 yX4_isValue wsX4_isValue) := goodIn_app (goodIn_r _ [2, 3, 4] rfl (by decide +kernel)) ggX4_count_X4_isValue
set_option maxRecDepth 20000 in
theorem ggX4_count_X0_hasRange : GoodIn wsX4_count wsX0_hasRange := goodIn_r _ [10, 11, 26, 27] rfl (by decide +kernel)
set_option maxRecDepth 20000 in
theorem gX4_count_X0_hasRange : GoodIn wsX4_count (wsV RX4 79 RX0 yX0_hasRange wsX0_hasRange) := goodIn_app (goodIn_r _ [6, 7, 8, 9] rfl (by decide +kernel)) ggX4_count_X0_hasRange
set_option maxRecDepth 20000 in
theorem ggX4_count_X0_oftenIn : GoodIn wsX4_count wsX0_oftenIn := goodIn_r _ [15, 16, 26, 27] rfl (by decide +kernel)
set_option maxRecDepth 20000 in
theorem gX4_count_X0_oftenIn : GoodIn wsX4_count (wsV RX4 113 RX0 yX0_oftenIn wsX0_oftenIn) := goodIn_app (goodIn_r _ [12, 13, 14, 9] rfl (by decide +kernel)) ggX4_count_X0_oftenIn
def dt_cX4_count_0 : List (Nat × Instr × Nat) := [(0, .iload_n 1, 1), (1, .invokestatic 68, 3), (4, .ifCond .eq 15, 3), (7, .aload_n 0, 1), (8, .getfield 12, 3), (11, .iload_n 2, 1), (12, .iload_n 3, 1), (13, .invokevirtual 79, 3), (16, .ifCond .ne 5, 3), (19, .iconst (-1), 1), (20, .ireturn, 1), (21, .aload_n 0, 1), (22, .getfield 12, 3), (25, .iload_n 1, 1), (26, .iload_n 2, 1), (27, .iload_n 3, 1), (28, .invokevirtual 113, 3), (31, .ireturn, 1)]
theorem da_cX4_count_0 : dk_all cX4_count dt_cX4_count_0 = true := by decide +kernel
theorem dX4_count_0 : decode cX4_count 0 = .ok (.iload_n 1, 1) := dk_get _ da_cX4_count_0 0 _ _ _ rfl
theorem dX4_count_1 : decode cX4_count 1 = .ok (.invokestatic 68, 3) := dk_get _ da_cX4_count_0 1 _ _ _ rfl
theorem dX4_count_4 : decode cX4_count 4 = .ok (.ifCond .eq 15, 3) := dk_get _ da_cX4_count_0 2 _ _ _ rfl
theorem dX4_count_7 : decode cX4_count 7 = .ok (.aload_n 0, 1) := dk_get _ da_cX4_count_0 3 _ _ _ rfl
theorem dX4_count_8 : decode cX4_count 8 = .ok (.getfield 12, 3) := dk_get _ da_cX4_count_0 4 _ _ _ rfl
theorem dX4_count_11 : decode cX4_count 11 = .ok (.iload_n 2, 1) := dk_get _ da_cX4_count_0 5 _ _ _ rfl
theorem dX4_count_12 : decode cX4_count 12 = .ok (.iload_n 3, 1) := dk_get _ da_cX4_count_0 6 _ _ _ rfl
theorem dX4_count_13 : decode cX4_count 13 = .ok (.invokevirtual 79, 3) := dk_get _ da_cX4_count_0 7 _ _ _ rfl
theorem dX4_count_16 : decode cX4_count 16 = .ok (.ifCond .ne 5, 3) := dk_get _ da_cX4_count_0 8 _ _ _ rfl
theorem dX4_count_19 : decode cX4_count 19 = .ok (.iconst (-1), 1) := dk_get _ da_cX4_count_0 9 _ _ _ rfl
theorem dX4_count_20 : decode cX4_count 20 = .ok (.ireturn, 1) := dk_get _ da_cX4_count_0 10 _ _ _ rfl
theorem dX4_count_21 : decode cX4_count 21 = .ok (.aload_n 0, 1) := dk_get _ da_cX4_count_0 11 _ _ _ rfl
theorem dX4_count_22 : decode cX4_count 22 = .ok (.getfield 12, 3) := dk_get _ da_cX4_count_0 12 _ _ _ rfl
theorem dX4_count_25 : decode cX4_count 25 = .ok (.iload_n 1, 1) := dk_get _ da_cX4_count_0 13 _ _ _ rfl
theorem dX4_count_26 : decode cX4_count 26 = .ok (.iload_n 2, 1) := dk_get _ da_cX4_count_0 14 _ _ _ rfl
theorem dX4_count_27 : decode cX4_count 27 = .ok (.iload_n 3, 1) := dk_get _ da_cX4_count_0 15 _ _ _ rfl
theorem dX4_count_28 : decode cX4_count 28 = .ok (.invokevirtual 113, 3) := dk_get _ da_cX4_count_0 16 _ _ _ rfl
theorem dX4_count_31 : decode cX4_count 31 = .ok (.ireturn, 1) := dk_get _ da_cX4_count_0 17 _ _ _ rfl
def dt_cX4_place_0 : List (Nat × Instr × Nat) := [(0, .iload_n 2, 1), (1, .ifCond .ge 5, 3), (4, .iconst (-1), 1), (5, .ireturn, 1), (6, .iconst 0, 1), (7, .istore_n 3, 1), (8, .iconst 0, 1), (9, .istore 4, 2), (11, .iload 4, 2), (13, .aload_n 0, 1), (14, .getfield 12, 3), (17, .getfield 57, 3), (20, .if_icmp .ge 34, 3), (23, .aload_n 0, 1), (24, .getfield 12, 3), (27, .getfield 110, 3), (30, .iload 4, 2), (32, .iaload, 1), (33, .iload_n 1, 1), (34, .if_icmp .ne 14, 3), (37, .iload_n 3, 1), (38, .iload_n 2, 1), (39, .if_icmp .ne 6, 3), (42, .iload 4, 2), (44, .ireturn, 1), (45, .iinc 3 1, 3), (48, .iinc 4 1, 3), (51, .goto (-40), 3), (54, .iconst (-1), 1), (55, .ireturn, 1)]
theorem da_cX4_place_0 : dk_all cX4_place dt_cX4_place_0 = true := by decide +kernel
theorem dX4_place_0 : decode cX4_place 0 = .ok (.iload_n 2, 1) := dk_get _ da_cX4_place_0 0 _ _ _ rfl
theorem dX4_place_1 : decode cX4_place 1 = .ok (.ifCond .ge 5, 3) := dk_get _ da_cX4_place_0 1 _ _ _ rfl
theorem dX4_place_4 : decode cX4_place 4 = .ok (.iconst (-1), 1) := dk_get _ da_cX4_place_0 2 _ _ _ rfl
theorem dX4_place_5 : decode cX4_place 5 = .ok (.ireturn, 1) := dk_get _ da_cX4_place_0 3 _ _ _ rfl
theorem dX4_place_6 : decode cX4_place 6 = .ok (.iconst 0, 1) := dk_get _ da_cX4_place_0 4 _ _ _ rfl
theorem dX4_place_7 : decode cX4_place 7 = .ok (.istore_n 3, 1) := dk_get _ da_cX4_place_0 5 _ _ _ rfl
theorem dX4_place_8 : decode cX4_place 8 = .ok (.iconst 0, 1) := dk_get _ da_cX4_place_0 6 _ _ _ rfl
theorem dX4_place_9 : decode cX4_place 9 = .ok (.istore 4, 2) := dk_get _ da_cX4_place_0 7 _ _ _ rfl
theorem dX4_place_11 : decode cX4_place 11 = .ok (.iload 4, 2) := dk_get _ da_cX4_place_0 8 _ _ _ rfl
theorem dX4_place_13 : decode cX4_place 13 = .ok (.aload_n 0, 1) := dk_get _ da_cX4_place_0 9 _ _ _ rfl
theorem dX4_place_14 : decode cX4_place 14 = .ok (.getfield 12, 3) := dk_get _ da_cX4_place_0 10 _ _ _ rfl
theorem dX4_place_17 : decode cX4_place 17 = .ok (.getfield 57, 3) := dk_get _ da_cX4_place_0 11 _ _ _ rfl
theorem dX4_place_20 : decode cX4_place 20 = .ok (.if_icmp .ge 34, 3) := dk_get _ da_cX4_place_0 12 _ _ _ rfl
theorem dX4_place_23 : decode cX4_place 23 = .ok (.aload_n 0, 1) := dk_get _ da_cX4_place_0 13 _ _ _ rfl
theorem dX4_place_24 : decode cX4_place 24 = .ok (.getfield 12, 3) := dk_get _ da_cX4_place_0 14 _ _ _ rfl
theorem dX4_place_27 : decode cX4_place 27 = .ok (.getfield 110, 3) := dk_get _ da_cX4_place_0 15 _ _ _ rfl
theorem dX4_place_30 : decode cX4_place 30 = .ok (.iload 4, 2) := dk_get _ da_cX4_place_0 16 _ _ _ rfl
theorem dX4_place_32 : decode cX4_place 32 = .ok (.iaload, 1) := dk_get _ da_cX4_place_0 17 _ _ _ rfl
theorem dX4_place_33 : decode cX4_place 33 = .ok (.iload_n 1, 1) := dk_get _ da_cX4_place_0 18 _ _ _ rfl
theorem dX4_place_34 : decode cX4_place 34 = .ok (.if_icmp .ne 14, 3) := dk_get _ da_cX4_place_0 19 _ _ _ rfl
theorem dX4_place_37 : decode cX4_place 37 = .ok (.iload_n 3, 1) := dk_get _ da_cX4_place_0 20 _ _ _ rfl
theorem dX4_place_38 : decode cX4_place 38 = .ok (.iload_n 2, 1) := dk_get _ da_cX4_place_0 21 _ _ _ rfl
theorem dX4_place_39 : decode cX4_place 39 = .ok (.if_icmp .ne 6, 3) := dk_get _ da_cX4_place_0 22 _ _ _ rfl
theorem dX4_place_42 : decode cX4_place 42 = .ok (.iload 4, 2) := dk_get _ da_cX4_place_0 23 _ _ _ rfl
theorem dX4_place_44 : decode cX4_place 44 = .ok (.ireturn, 1) := dk_get _ da_cX4_place_0 24 _ _ _ rfl
theorem dX4_place_45 : decode cX4_place 45 = .ok (.iinc 3 1, 3) := dk_get _ da_cX4_place_0 25 _ _ _ rfl
theorem dX4_place_48 : decode cX4_place 48 = .ok (.iinc 4 1, 3) := dk_get _ da_cX4_place_0 26 _ _ _ rfl
theorem dX4_place_51 : decode cX4_place 51 = .ok (.goto (-40), 3) := dk_get _ da_cX4_place_0 27 _ _ _ rfl
theorem dX4_place_54 : decode cX4_place 54 = .ok (.iconst (-1), 1) := dk_get _ da_cX4_place_0 28 _ _ _ rfl
theorem dX4_place_55 : decode cX4_place 55 = .ok (.ireturn, 1) := dk_get _ da_cX4_place_0 29 _ _ _ rfl
set_option maxRecDepth 20000 in
theorem ggX4_values_X1_learn : GoodIn wsX4_values wsX1_learn := goodIn_r _ [9, 10, 11, 12, 13, 14, 15, 16, 17, 27, 28, 29, 30, 31, 32] rfl (by decide +kernel)
set_option maxRecDepth 20000 in
theorem gX4_values_X1_learn : GoodIn wsX4_values (wsV RX4 117 RX1 yX1_learn wsX1_learn) := goodIn_app (goodIn_r _ [5, 6, 7, 8] rfl (by decide +kernel)) ggX4_values_X1_learn
def dt_cX4_values_0 : List (Nat × Instr × Nat) := [(0, .aload_n 0, 1), (1, .getfield 28, 3), (4, .aload_n 0, 1), (5, .getfield 12, 3), (8, .invokevirtual 117, 3), (11, .iconst 0, 1), (12, .istore_n 1, 1), (13, .iconst 0, 1), (14, .istore_n 2, 1), (15, .iload_n 2, 1), (16, .aload_n 0, 1), (17, .getfield 12, 3), (20, .getfield 57, 3), (23, .if_icmp .ge 25, 3), (26, .aload_n 0, 1), (27, .getfield 28, 3), (30, .getfield 120, 3), (33, .iload_n 2, 1), (34, .iaload, 1), (35, .iload_n 2, 1), (36, .if_icmp .ne 6, 3), (39, .iinc 1 1, 3), (42, .iinc 2 1, 3), (45, .goto (-30), 3), (48, .iload_n 1, 1), (49, .ireturn, 1)]
theorem da_cX4_values_0 : dk_all cX4_values dt_cX4_values_0 = true := by decide +kernel
theorem dX4_values_0 : decode cX4_values 0 = .ok (.aload_n 0, 1) := dk_get _ da_cX4_values_0 0 _ _ _ rfl
theorem dX4_values_1 : decode cX4_values 1 = .ok (.getfield 28, 3) := dk_get _ da_cX4_values_0 1 _ _ _ rfl
theorem dX4_values_4 : decode cX4_values 4 = .ok (.aload_n 0, 1) := dk_get _ da_cX4_values_0 2 _ _ _ rfl
theorem dX4_values_5 : decode cX4_values 5 = .ok (.getfield 12, 3) := dk_get _ da_cX4_values_0 3 _ _ _ rfl
theorem dX4_values_8 : decode cX4_values 8 = .ok (.invokevirtual 117, 3) := dk_get _ da_cX4_values_0 4 _ _ _ rfl
theorem dX4_values_11 : decode cX4_values 11 = .ok (.iconst 0, 1) := dk_get _ da_cX4_values_0 5 _ _ _ rfl
theorem dX4_values_12 : decode cX4_values 12 = .ok (.istore_n 1, 1) := dk_get _ da_cX4_values_0 6 _ _ _ rfl
theorem dX4_values_13 : decode cX4_values 13 = .ok (.iconst 0, 1) := dk_get _ da_cX4_values_0 7 _ _ _ rfl
theorem dX4_values_14 : decode cX4_values 14 = .ok (.istore_n 2, 1) := dk_get _ da_cX4_values_0 8 _ _ _ rfl
theorem dX4_values_15 : decode cX4_values 15 = .ok (.iload_n 2, 1) := dk_get _ da_cX4_values_0 9 _ _ _ rfl
theorem dX4_values_16 : decode cX4_values 16 = .ok (.aload_n 0, 1) := dk_get _ da_cX4_values_0 10 _ _ _ rfl
theorem dX4_values_17 : decode cX4_values 17 = .ok (.getfield 12, 3) := dk_get _ da_cX4_values_0 11 _ _ _ rfl
theorem dX4_values_20 : decode cX4_values 20 = .ok (.getfield 57, 3) := dk_get _ da_cX4_values_0 12 _ _ _ rfl
theorem dX4_values_23 : decode cX4_values 23 = .ok (.if_icmp .ge 25, 3) := dk_get _ da_cX4_values_0 13 _ _ _ rfl
theorem dX4_values_26 : decode cX4_values 26 = .ok (.aload_n 0, 1) := dk_get _ da_cX4_values_0 14 _ _ _ rfl
theorem dX4_values_27 : decode cX4_values 27 = .ok (.getfield 28, 3) := dk_get _ da_cX4_values_0 15 _ _ _ rfl
theorem dX4_values_30 : decode cX4_values 30 = .ok (.getfield 120, 3) := dk_get _ da_cX4_values_0 16 _ _ _ rfl
theorem dX4_values_33 : decode cX4_values 33 = .ok (.iload_n 2, 1) := dk_get _ da_cX4_values_0 17 _ _ _ rfl
theorem dX4_values_34 : decode cX4_values 34 = .ok (.iaload, 1) := dk_get _ da_cX4_values_0 18 _ _ _ rfl
theorem dX4_values_35 : decode cX4_values 35 = .ok (.iload_n 2, 1) := dk_get _ da_cX4_values_0 19 _ _ _ rfl
theorem dX4_values_36 : decode cX4_values 36 = .ok (.if_icmp .ne 6, 3) := dk_get _ da_cX4_values_0 20 _ _ _ rfl
theorem dX4_values_39 : decode cX4_values 39 = .ok (.iinc 1 1, 3) := dk_get _ da_cX4_values_0 21 _ _ _ rfl
theorem dX4_values_42 : decode cX4_values 42 = .ok (.iinc 2 1, 3) := dk_get _ da_cX4_values_0 22 _ _ _ rfl
theorem dX4_values_45 : decode cX4_values 45 = .ok (.goto (-30), 3) := dk_get _ da_cX4_values_0 23 _ _ _ rfl
theorem dX4_values_48 : decode cX4_values 48 = .ok (.iload_n 1, 1) := dk_get _ da_cX4_values_0 24 _ _ _ rfl
theorem dX4_values_49 : decode cX4_values 49 = .ok (.ireturn, 1) := dk_get _ da_cX4_values_0 25 _ _ _ rfl
set_option maxRecDepth 20000 in
theorem ggX4_majority_X0_hasRange : GoodIn wsX4_majority wsX0_hasRange := goodIn_r _ [7, 8, 31, 32] rfl (by decide +kernel)
set_option maxRecDepth 20000 in
theorem gX4_majority_X0_hasRange : GoodIn wsX4_majority (wsV RX4 79 RX0 yX0_hasRange wsX0_hasRange) := goodIn_app (goodIn_r _ [3, 4, 5, 6] rfl (by decide +kernel)) ggX4_majority_X0_hasRange
set_option maxRecDepth 20000 in
theorem ggX4_majority_X0_leader : GoodIn wsX4_majority wsX0_leader := goodIn_r _ [12, 13, 14, 15, 16, 17, 6, 18, 19, 20, 21, 31, 32] rfl (by decide +kernel)
set_option maxRecDepth 20000 in
theorem gX4_majority_X0_leader : GoodIn wsX4_majority (wsV RX4 207 RX0 yX0_leader wsX0_leader) := goodIn_app (goodIn_r _ [9, 10, 11, 6] rfl (by decide +kernel)) ggX4_majority_X0_leader
def dt_cX4_majority_0 : List (Nat × Instr × Nat) := [(0, .aload_n 0, 1), (1, .getfield 12, 3), (4, .iload_n 1, 1), (5, .iload_n 2, 1), (6, .invokevirtual 79, 3), (9, .ifCond .eq 15, 3), (12, .aload_n 0, 1), (13, .getfield 12, 3), (16, .iload_n 1, 1), (17, .iload_n 2, 1), (18, .invokevirtual 207, 3), (21, .goto 5, 3), (24, .ldc 102, 2), (26, .ireturn, 1)]
theorem da_cX4_majority_0 : dk_all cX4_majority dt_cX4_majority_0 = true := by decide +kernel
theorem dX4_majority_0 : decode cX4_majority 0 = .ok (.aload_n 0, 1) := dk_get _ da_cX4_majority_0 0 _ _ _ rfl
theorem dX4_majority_1 : decode cX4_majority 1 = .ok (.getfield 12, 3) := dk_get _ da_cX4_majority_0 1 _ _ _ rfl
theorem dX4_majority_4 : decode cX4_majority 4 = .ok (.iload_n 1, 1) := dk_get _ da_cX4_majority_0 2 _ _ _ rfl
theorem dX4_majority_5 : decode cX4_majority 5 = .ok (.iload_n 2, 1) := dk_get _ da_cX4_majority_0 3 _ _ _ rfl
theorem dX4_majority_6 : decode cX4_majority 6 = .ok (.invokevirtual 79, 3) := dk_get _ da_cX4_majority_0 4 _ _ _ rfl
theorem dX4_majority_9 : decode cX4_majority 9 = .ok (.ifCond .eq 15, 3) := dk_get _ da_cX4_majority_0 5 _ _ _ rfl
theorem dX4_majority_12 : decode cX4_majority 12 = .ok (.aload_n 0, 1) := dk_get _ da_cX4_majority_0 6 _ _ _ rfl
theorem dX4_majority_13 : decode cX4_majority 13 = .ok (.getfield 12, 3) := dk_get _ da_cX4_majority_0 7 _ _ _ rfl
theorem dX4_majority_16 : decode cX4_majority 16 = .ok (.iload_n 1, 1) := dk_get _ da_cX4_majority_0 8 _ _ _ rfl
theorem dX4_majority_17 : decode cX4_majority 17 = .ok (.iload_n 2, 1) := dk_get _ da_cX4_majority_0 9 _ _ _ rfl
theorem dX4_majority_18 : decode cX4_majority 18 = .ok (.invokevirtual 207, 3) := dk_get _ da_cX4_majority_0 10 _ _ _ rfl
theorem dX4_majority_21 : decode cX4_majority 21 = .ok (.goto 5, 3) := dk_get _ da_cX4_majority_0 11 _ _ _ rfl
theorem dX4_majority_24 : decode cX4_majority 24 = .ok (.ldc 102, 2) := dk_get _ da_cX4_majority_0 12 _ _ _ rfl
theorem dX4_majority_26 : decode cX4_majority 26 = .ok (.ireturn, 1) := dk_get _ da_cX4_majority_0 13 _ _ _ rfl
set_option maxRecDepth 20000 in
theorem ggX4_margin_X4_isValue : GoodIn wsX4_margin wsX4_isValue := goodIn_r _ [6] rfl (by decide +kernel)
set_option maxRecDepth 20000 in
theorem gX4_margin_X4_isValue : GoodIn wsX4_margin (va_wsS RX4 68 yX4_isValue wsX4_isValue) := goodIn_app (goodIn_r _ [3, 4, 5] rfl (by decide +kernel)) ggX4_margin_X4_isValue
set_option maxRecDepth 20000 in
theorem ggX4_margin_X0_hasRange : GoodIn wsX4_margin wsX0_hasRange := goodIn_r _ [11, 12, 27, 28] rfl (by decide +kernel)
set_option maxRecDepth 20000 in
theorem gX4_margin_X0_hasRange : GoodIn wsX4_margin (wsV RX4 79 RX0 yX0_hasRange wsX0_hasRange) := goodIn_app (goodIn_r _ [7, 8, 9, 10] rfl (by decide +kernel)) ggX4_margin_X0_hasRange
set_option maxRecDepth 20000 in
theorem ggX4_margin_X0_oftenIn : GoodIn wsX4_margin wsX0_oftenIn := goodIn_r _ [16, 17, 27, 28] rfl (by decide +kernel)
set_option maxRecDepth 20000 in
theorem gX4_margin_X0_oftenIn : GoodIn wsX4_margin (wsV RX4 113 RX0 yX0_oftenIn wsX0_oftenIn) := goodIn_app (goodIn_r _ [13, 14, 15, 10] rfl (by decide +kernel)) ggX4_margin_X0_oftenIn
def dt_cX4_margin_0 : List (Nat × Instr × Nat) := [(0, .iload_n 1, 1), (1, .invokestatic 68, 3), (4, .ifCond .eq 15, 3), (7, .aload_n 0, 1), (8, .getfield 12, 3), (11, .iload_n 2, 1), (12, .iload_n 3, 1), (13, .invokevirtual 79, 3), (16, .ifCond .ne 6, 3), (19, .ldc 102, 2), (21, .ireturn, 1), (22, .iconst 2, 1), (23, .aload_n 0, 1), (24, .getfield 12, 3), (27, .iload_n 1, 1), (28, .iload_n 2, 1), (29, .iload_n 3, 1), (30, .invokevirtual 113, 3), (33, .imul, 1), (34, .iload_n 3, 1), (35, .iload_n 2, 1), (36, .isub, 1), (37, .isub, 1), (38, .ireturn, 1)]
theorem da_cX4_margin_0 : dk_all cX4_margin dt_cX4_margin_0 = true := by decide +kernel
theorem dX4_margin_0 : decode cX4_margin 0 = .ok (.iload_n 1, 1) := dk_get _ da_cX4_margin_0 0 _ _ _ rfl
theorem dX4_margin_1 : decode cX4_margin 1 = .ok (.invokestatic 68, 3) := dk_get _ da_cX4_margin_0 1 _ _ _ rfl
theorem dX4_margin_4 : decode cX4_margin 4 = .ok (.ifCond .eq 15, 3) := dk_get _ da_cX4_margin_0 2 _ _ _ rfl
theorem dX4_margin_7 : decode cX4_margin 7 = .ok (.aload_n 0, 1) := dk_get _ da_cX4_margin_0 3 _ _ _ rfl
theorem dX4_margin_8 : decode cX4_margin 8 = .ok (.getfield 12, 3) := dk_get _ da_cX4_margin_0 4 _ _ _ rfl
theorem dX4_margin_11 : decode cX4_margin 11 = .ok (.iload_n 2, 1) := dk_get _ da_cX4_margin_0 5 _ _ _ rfl
theorem dX4_margin_12 : decode cX4_margin 12 = .ok (.iload_n 3, 1) := dk_get _ da_cX4_margin_0 6 _ _ _ rfl
theorem dX4_margin_13 : decode cX4_margin 13 = .ok (.invokevirtual 79, 3) := dk_get _ da_cX4_margin_0 7 _ _ _ rfl
theorem dX4_margin_16 : decode cX4_margin 16 = .ok (.ifCond .ne 6, 3) := dk_get _ da_cX4_margin_0 8 _ _ _ rfl
theorem dX4_margin_19 : decode cX4_margin 19 = .ok (.ldc 102, 2) := dk_get _ da_cX4_margin_0 9 _ _ _ rfl
theorem dX4_margin_21 : decode cX4_margin 21 = .ok (.ireturn, 1) := dk_get _ da_cX4_margin_0 10 _ _ _ rfl
theorem dX4_margin_22 : decode cX4_margin 22 = .ok (.iconst 2, 1) := dk_get _ da_cX4_margin_0 11 _ _ _ rfl
theorem dX4_margin_23 : decode cX4_margin 23 = .ok (.aload_n 0, 1) := dk_get _ da_cX4_margin_0 12 _ _ _ rfl
theorem dX4_margin_24 : decode cX4_margin 24 = .ok (.getfield 12, 3) := dk_get _ da_cX4_margin_0 13 _ _ _ rfl
theorem dX4_margin_27 : decode cX4_margin 27 = .ok (.iload_n 1, 1) := dk_get _ da_cX4_margin_0 14 _ _ _ rfl
theorem dX4_margin_28 : decode cX4_margin 28 = .ok (.iload_n 2, 1) := dk_get _ da_cX4_margin_0 15 _ _ _ rfl
theorem dX4_margin_29 : decode cX4_margin 29 = .ok (.iload_n 3, 1) := dk_get _ da_cX4_margin_0 16 _ _ _ rfl
theorem dX4_margin_30 : decode cX4_margin 30 = .ok (.invokevirtual 113, 3) := dk_get _ da_cX4_margin_0 17 _ _ _ rfl
theorem dX4_margin_33 : decode cX4_margin 33 = .ok (.imul, 1) := dk_get _ da_cX4_margin_0 18 _ _ _ rfl
theorem dX4_margin_34 : decode cX4_margin 34 = .ok (.iload_n 3, 1) := dk_get _ da_cX4_margin_0 19 _ _ _ rfl
theorem dX4_margin_35 : decode cX4_margin 35 = .ok (.iload_n 2, 1) := dk_get _ da_cX4_margin_0 20 _ _ _ rfl
theorem dX4_margin_36 : decode cX4_margin 36 = .ok (.isub, 1) := dk_get _ da_cX4_margin_0 21 _ _ _ rfl
theorem dX4_margin_37 : decode cX4_margin 37 = .ok (.isub, 1) := dk_get _ da_cX4_margin_0 22 _ _ _ rfl
theorem dX4_margin_38 : decode cX4_margin 38 = .ok (.ireturn, 1) := dk_get _ da_cX4_margin_0 23 _ _ _ rfl
set_option maxRecDepth 20000 in
theorem ggX4_longest_X4_isValue : GoodIn wsX4_longest wsX4_isValue := goodIn_r _ [6] rfl (by decide +kernel)
set_option maxRecDepth 20000 in
theorem gX4_longest_X4_isValue : GoodIn wsX4_longest (va_wsS RX4 68 yX4_isValue wsX4_isValue) := goodIn_app (goodIn_r _ [3, 4, 5] rfl (by decide +kernel)) ggX4_longest_X4_isValue
set_option maxRecDepth 20000 in
theorem ggX4_longest_X4_isShare : GoodIn wsX4_longest wsX4_isShare := goodIn_r _ [9] rfl (by decide +kernel)
set_option maxRecDepth 20000 in
theorem gX4_longest_X4_isShare : GoodIn wsX4_longest (va_wsS RX4 186 yX4_isShare wsX4_isShare) := goodIn_app (goodIn_r _ [7, 8, 5] rfl (by decide +kernel)) ggX4_longest_X4_isShare
set_option maxRecDepth 20000 in
theorem ggX4_longest_X4_farthestHeavy : GoodIn wsX4_longest wsX4_farthestHeavy := goodIn_r _ [13, 1, 2, 14, 15, 16, 5, 17, 18, 19, 20, 21, 22, 23, 24, 25, 26, 27, 28] rfl (by decide +kernel)
set_option maxRecDepth 20000 in
theorem gX4_longest_X4_farthestHeavy : GoodIn wsX4_longest (wsV RX4 218 RX4 yX4_farthestHeavy wsX4_farthestHeavy) := goodIn_app (goodIn_r _ [10, 11, 12, 5] rfl (by decide +kernel)) ggX4_longest_X4_farthestHeavy
def dt_cX4_longest_0 : List (Nat × Instr × Nat) := [(0, .iload_n 1, 1), (1, .invokestatic 68, 3), (4, .ifCond .eq 22, 3), (7, .iload_n 2, 1), (8, .iload_n 3, 1), (9, .invokestatic 186, 3), (12, .ifCond .eq 14, 3), (15, .iload 4, 2), (17, .ifCond .lt 9, 3), (20, .iload 4, 2), (22, .iconst 1, 1), (23, .if_icmp .le 5, 3), (26, .iconst (-1), 1), (27, .ireturn, 1), (28, .iconst (-1), 1), (29, .istore 5, 2), (31, .iconst (-1), 1), (32, .istore 6, 2), (34, .iconst 0, 1), (35, .istore 7, 2), (37, .iload 7, 2), (39, .aload_n 0, 1), (40, .getfield 12, 3), (43, .getfield 57, 3), (46, .if_icmp .ge 47, 3), (49, .aload_n 0, 1), (50, .iload_n 1, 1), (51, .iload 7, 2), (53, .iload_n 2, 1), (54, .iload_n 3, 1), (55, .invokevirtual 218, 3), (58, .istore 8, 2), (60, .iload 8, 2), (62, .iconst (-1), 1), (63, .if_icmp .eq 24, 3), (66, .iload 8, 2), (68, .iload 7, 2), (70, .isub, 1), (71, .iload 6, 2), (73, .iload 5, 2), (75, .isub, 1), (76, .if_icmp .le 11, 3), (79, .iload 7, 2), (81, .istore 5, 2), (83, .iload 8, 2), (85, .istore 6, 2), (87, .iinc 7 1, 3), (90, .goto (-53), 3), (93, .iload 4, 2), (95, .ifCond .ne 8, 3), (98, .iload 5, 2), (100, .goto 5, 3), (103, .iload 6, 2), (105, .ireturn, 1)]
theorem da_cX4_longest_0 : dk_all cX4_longest dt_cX4_longest_0 = true := by decide +kernel
theorem dX4_longest_0 : decode cX4_longest 0 = .ok (.iload_n 1, 1) := dk_get _ da_cX4_longest_0 0 _ _ _ rfl
theorem dX4_longest_1 : decode cX4_longest 1 = .ok (.invokestatic 68, 3) := dk_get _ da_cX4_longest_0 1 _ _ _ rfl
theorem dX4_longest_4 : decode cX4_longest 4 = .ok (.ifCond .eq 22, 3) := dk_get _ da_cX4_longest_0 2 _ _ _ rfl
theorem dX4_longest_7 : decode cX4_longest 7 = .ok (.iload_n 2, 1) := dk_get _ da_cX4_longest_0 3 _ _ _ rfl
theorem dX4_longest_8 : decode cX4_longest 8 = .ok (.iload_n 3, 1) := dk_get _ da_cX4_longest_0 4 _ _ _ rfl
theorem dX4_longest_9 : decode cX4_longest 9 = .ok (.invokestatic 186, 3) := dk_get _ da_cX4_longest_0 5 _ _ _ rfl
theorem dX4_longest_12 : decode cX4_longest 12 = .ok (.ifCond .eq 14, 3) := dk_get _ da_cX4_longest_0 6 _ _ _ rfl
theorem dX4_longest_15 : decode cX4_longest 15 = .ok (.iload 4, 2) := dk_get _ da_cX4_longest_0 7 _ _ _ rfl
theorem dX4_longest_17 : decode cX4_longest 17 = .ok (.ifCond .lt 9, 3) := dk_get _ da_cX4_longest_0 8 _ _ _ rfl
theorem dX4_longest_20 : decode cX4_longest 20 = .ok (.iload 4, 2) := dk_get _ da_cX4_longest_0 9 _ _ _ rfl
theorem dX4_longest_22 : decode cX4_longest 22 = .ok (.iconst 1, 1) := dk_get _ da_cX4_longest_0 10 _ _ _ rfl
theorem dX4_longest_23 : decode cX4_longest 23 = .ok (.if_icmp .le 5, 3) := dk_get _ da_cX4_longest_0 11 _ _ _ rfl
theorem dX4_longest_26 : decode cX4_longest 26 = .ok (.iconst (-1), 1) := dk_get _ da_cX4_longest_0 12 _ _ _ rfl
theorem dX4_longest_27 : decode cX4_longest 27 = .ok (.ireturn, 1) := dk_get _ da_cX4_longest_0 13 _ _ _ rfl
theorem dX4_longest_28 : decode cX4_longest 28 = .ok (.iconst (-1), 1) := dk_get _ da_cX4_longest_0 14 _ _ _ rfl
theorem dX4_longest_29 : decode cX4_longest 29 = .ok (.istore 5, 2) := dk_get _ da_cX4_longest_0 15 _ _ _ rfl
theorem dX4_longest_31 : decode cX4_longest 31 = .ok (.iconst (-1), 1) := dk_get _ da_cX4_longest_0 16 _ _ _ rfl
theorem dX4_longest_32 : decode cX4_longest 32 = .ok (.istore 6, 2) := dk_get _ da_cX4_longest_0 17 _ _ _ rfl
theorem dX4_longest_34 : decode cX4_longest 34 = .ok (.iconst 0, 1) := dk_get _ da_cX4_longest_0 18 _ _ _ rfl
theorem dX4_longest_35 : decode cX4_longest 35 = .ok (.istore 7, 2) := dk_get _ da_cX4_longest_0 19 _ _ _ rfl
theorem dX4_longest_37 : decode cX4_longest 37 = .ok (.iload 7, 2) := dk_get _ da_cX4_longest_0 20 _ _ _ rfl
theorem dX4_longest_39 : decode cX4_longest 39 = .ok (.aload_n 0, 1) := dk_get _ da_cX4_longest_0 21 _ _ _ rfl
theorem dX4_longest_40 : decode cX4_longest 40 = .ok (.getfield 12, 3) := dk_get _ da_cX4_longest_0 22 _ _ _ rfl
theorem dX4_longest_43 : decode cX4_longest 43 = .ok (.getfield 57, 3) := dk_get _ da_cX4_longest_0 23 _ _ _ rfl
theorem dX4_longest_46 : decode cX4_longest 46 = .ok (.if_icmp .ge 47, 3) := dk_get _ da_cX4_longest_0 24 _ _ _ rfl
theorem dX4_longest_49 : decode cX4_longest 49 = .ok (.aload_n 0, 1) := dk_get _ da_cX4_longest_0 25 _ _ _ rfl
theorem dX4_longest_50 : decode cX4_longest 50 = .ok (.iload_n 1, 1) := dk_get _ da_cX4_longest_0 26 _ _ _ rfl
theorem dX4_longest_51 : decode cX4_longest 51 = .ok (.iload 7, 2) := dk_get _ da_cX4_longest_0 27 _ _ _ rfl
theorem dX4_longest_53 : decode cX4_longest 53 = .ok (.iload_n 2, 1) := dk_get _ da_cX4_longest_0 28 _ _ _ rfl
theorem dX4_longest_54 : decode cX4_longest 54 = .ok (.iload_n 3, 1) := dk_get _ da_cX4_longest_0 29 _ _ _ rfl
theorem dX4_longest_55 : decode cX4_longest 55 = .ok (.invokevirtual 218, 3) := dk_get _ da_cX4_longest_0 30 _ _ _ rfl
theorem dX4_longest_58 : decode cX4_longest 58 = .ok (.istore 8, 2) := dk_get _ da_cX4_longest_0 31 _ _ _ rfl
theorem dX4_longest_60 : decode cX4_longest 60 = .ok (.iload 8, 2) := dk_get _ da_cX4_longest_0 32 _ _ _ rfl
theorem dX4_longest_62 : decode cX4_longest 62 = .ok (.iconst (-1), 1) := dk_get _ da_cX4_longest_0 33 _ _ _ rfl
theorem dX4_longest_63 : decode cX4_longest 63 = .ok (.if_icmp .eq 24, 3) := dk_get _ da_cX4_longest_0 34 _ _ _ rfl
theorem dX4_longest_66 : decode cX4_longest 66 = .ok (.iload 8, 2) := dk_get _ da_cX4_longest_0 35 _ _ _ rfl
theorem dX4_longest_68 : decode cX4_longest 68 = .ok (.iload 7, 2) := dk_get _ da_cX4_longest_0 36 _ _ _ rfl
theorem dX4_longest_70 : decode cX4_longest 70 = .ok (.isub, 1) := dk_get _ da_cX4_longest_0 37 _ _ _ rfl
theorem dX4_longest_71 : decode cX4_longest 71 = .ok (.iload 6, 2) := dk_get _ da_cX4_longest_0 38 _ _ _ rfl
theorem dX4_longest_73 : decode cX4_longest 73 = .ok (.iload 5, 2) := dk_get _ da_cX4_longest_0 39 _ _ _ rfl
theorem dX4_longest_75 : decode cX4_longest 75 = .ok (.isub, 1) := dk_get _ da_cX4_longest_0 40 _ _ _ rfl
theorem dX4_longest_76 : decode cX4_longest 76 = .ok (.if_icmp .le 11, 3) := dk_get _ da_cX4_longest_0 41 _ _ _ rfl
theorem dX4_longest_79 : decode cX4_longest 79 = .ok (.iload 7, 2) := dk_get _ da_cX4_longest_0 42 _ _ _ rfl
theorem dX4_longest_81 : decode cX4_longest 81 = .ok (.istore 5, 2) := dk_get _ da_cX4_longest_0 43 _ _ _ rfl
theorem dX4_longest_83 : decode cX4_longest 83 = .ok (.iload 8, 2) := dk_get _ da_cX4_longest_0 44 _ _ _ rfl
theorem dX4_longest_85 : decode cX4_longest 85 = .ok (.istore 6, 2) := dk_get _ da_cX4_longest_0 45 _ _ _ rfl
theorem dX4_longest_87 : decode cX4_longest 87 = .ok (.iinc 7 1, 3) := dk_get _ da_cX4_longest_0 46 _ _ _ rfl
theorem dX4_longest_90 : decode cX4_longest 90 = .ok (.goto (-53), 3) := dk_get _ da_cX4_longest_0 47 _ _ _ rfl
theorem dX4_longest_93 : decode cX4_longest 93 = .ok (.iload 4, 2) := dk_get _ da_cX4_longest_0 48 _ _ _ rfl
theorem dX4_longest_95 : decode cX4_longest 95 = .ok (.ifCond .ne 8, 3) := dk_get _ da_cX4_longest_0 49 _ _ _ rfl
theorem dX4_longest_98 : decode cX4_longest 98 = .ok (.iload 5, 2) := dk_get _ da_cX4_longest_0 50 _ _ _ rfl
theorem dX4_longest_100 : decode cX4_longest 100 = .ok (.goto 5, 3) := dk_get _ da_cX4_longest_0 51 _ _ _ rfl
theorem dX4_longest_103 : decode cX4_longest 103 = .ok (.iload 6, 2) := dk_get _ da_cX4_longest_0 52 _ _ _ rfl
theorem dX4_longest_105 : decode cX4_longest 105 = .ok (.ireturn, 1) := dk_get _ da_cX4_longest_0 53 _ _ _ rfl
theorem mi_wsX4_reach_wsX4_reach_r1 : ∀ w ∈ wsX4_reach_r1, w ∈ wsX4_reach := fun _ h => (List.mem_cons_of_mem _ (List.mem_append_left _ (List.mem_append_left _ (List.mem_append_left _ (List.mem_append_left _ h)))))
theorem mi_wsX4_reach_wsX00 : ∀ w ∈ wsX00, w ∈ wsX4_reach := fun _ h => (List.mem_cons_of_mem _ (List.mem_append_left _ (List.mem_append_right _ h)))
set_option maxRecDepth 20000 in
theorem ggX4_reach_X0_hasPlace : GoodIn wsX4_reach wsX0_hasPlace := goodIn_k _ [(wsX4_reach_r1, [7, 8]), (wsX00, [0, 1])] (gk_c mi_wsX4_reach_wsX4_reach_r1 (gk_c mi_wsX4_reach_wsX00 gk_n)) rfl (by decide +kernel)
set_option maxRecDepth 20000 in
theorem gX4_reach_X0_hasPlace : GoodIn wsX4_reach (wsV RX4 64 RX0 yX0_hasPlace wsX0_hasPlace) := goodIn_app (goodIn_k _ [(wsX4_reach_r1, [3, 4, 5, 6])] (gk_c mi_wsX4_reach_wsX4_reach_r1 gk_n) rfl (by decide +kernel)) ggX4_reach_X0_hasPlace
theorem mi_wsX4_reach_wsX10 : ∀ w ∈ wsX10, w ∈ wsX4_reach := fun _ h => (List.mem_cons_of_mem _ (List.mem_append_right _ h))
set_option maxRecDepth 20000 in
theorem ggX4_reach_X1_learn : GoodIn wsX4_reach wsX1_learn := goodIn_k _ [(wsX4_reach_r1, [13, 14, 15, 16, 17, 18, 6, 19, 20]), (wsX00, [0, 1]), (wsX10, [0, 1, 2, 3])] (gk_c mi_wsX4_reach_wsX4_reach_r1 (gk_c mi_wsX4_reach_wsX00 (gk_c mi_wsX4_reach_wsX10 gk_n))) rfl (by decide +kernel)
set_option maxRecDepth 20000 in
theorem gX4_reach_X1_learn : GoodIn wsX4_reach (wsV RX4 117 RX1 yX1_learn wsX1_learn) := goodIn_app (goodIn_k _ [(wsX4_reach_r1, [9, 10, 11, 12])] (gk_c mi_wsX4_reach_wsX4_reach_r1 gk_n) rfl (by decide +kernel)) ggX4_reach_X1_learn
theorem mi_wsX4_reach_wsX4_reach_r2 : ∀ w ∈ wsX4_reach_r2, w ∈ wsX4_reach := fun _ h => (List.mem_cons_of_mem _ (List.mem_append_left _ (List.mem_append_left _ (List.mem_append_left _ (List.mem_append_right _ h)))))
set_option maxRecDepth 20000 in
theorem ggX4_reach_X1_clear : GoodIn wsX4_reach wsX1_clear := goodIn_k _ [(wsX4_reach_r2, [0, 1, 2, 3, 4, 5, 6, 7]), (wsX10, [0, 1, 2, 3])] (gk_c mi_wsX4_reach_wsX4_reach_r2 (gk_c mi_wsX4_reach_wsX10 gk_n)) rfl (by decide +kernel)
set_option maxRecDepth 20000 in
theorem gX4_reach_X1_clear : GoodIn wsX4_reach (wsV RX4 221 RX1 yX1_clear wsX1_clear) := goodIn_app (goodIn_k _ [(wsX4_reach_r1, [21, 22, 23, 12])] (gk_c mi_wsX4_reach_wsX4_reach_r1 gk_n) rfl (by decide +kernel)) ggX4_reach_X1_clear
set_option maxRecDepth 20000 in
theorem ggX4_reach_X1_take : GoodIn wsX4_reach wsX1_take := goodIn_k _ [(wsX4_reach_r2, [11, 1]), (wsX4_reach_r1, [15]), (wsX4_reach_r2, [2, 3]), (wsX10, [0, 1, 2, 3])] (gk_c mi_wsX4_reach_wsX4_reach_r2 (gk_c mi_wsX4_reach_wsX4_reach_r1 (gk_c mi_wsX4_reach_wsX4_reach_r2 (gk_c mi_wsX4_reach_wsX10 gk_n)))) rfl (by decide +kernel)
set_option maxRecDepth 20000 in
theorem gX4_reach_X1_take : GoodIn wsX4_reach (wsV RX4 224 RX1 yX1_take wsX1_take) := goodIn_app (goodIn_k _ [(wsX4_reach_r2, [8, 9, 10]), (wsX4_reach_r1, [12])] (gk_c mi_wsX4_reach_wsX4_reach_r2 (gk_c mi_wsX4_reach_wsX4_reach_r1 gk_n)) rfl (by decide +kernel)) ggX4_reach_X1_take
set_option maxRecDepth 20000 in
theorem ggX4_reach_X1_hasMajority : GoodIn wsX4_reach wsX1_hasMajority := goodIn_k _ [(wsX4_reach_r2, [15, 3, 2]), (wsX10, [0, 1, 2, 3])] (gk_c mi_wsX4_reach_wsX4_reach_r2 (gk_c mi_wsX4_reach_wsX10 gk_n)) rfl (by decide +kernel)
set_option maxRecDepth 20000 in
theorem gX4_reach_X1_hasMajority : GoodIn wsX4_reach (wsV RX4 227 RX1 yX1_hasMajority wsX1_hasMajority) := goodIn_app (goodIn_k _ [(wsX4_reach_r2, [12, 13, 14]), (wsX4_reach_r1, [12])] (gk_c mi_wsX4_reach_wsX4_reach_r2 (gk_c mi_wsX4_reach_wsX4_reach_r1 gk_n)) rfl (by decide +kernel)) ggX4_reach_X1_hasMajority
def dt_cX4_reach_0 : List (Nat × Instr × Nat) := [(0, .aload_n 0, 1), (1, .getfield 12, 3), (4, .iload_n 1, 1), (5, .invokevirtual 64, 3), (8, .ifCond .ne 5, 3), (11, .iconst (-1), 1), (12, .ireturn, 1), (13, .aload_n 0, 1), (14, .getfield 28, 3), (17, .aload_n 0, 1), (18, .getfield 12, 3), (21, .invokevirtual 117, 3), (24, .aload_n 0, 1), (25, .getfield 28, 3), (28, .invokevirtual 221, 3), (31, .iconst (-1), 1), (32, .istore_n 2, 1), (33, .iload_n 1, 1), (34, .istore_n 3, 1), (35, .iload_n 3, 1), (36, .aload_n 0, 1), (37, .getfield 12, 3), (40, .getfield 57, 3), (43, .if_icmp .ge 31, 3), (46, .aload_n 0, 1), (47, .getfield 28, 3), (50, .iload_n 3, 1), (51, .invokevirtual 224, 3), (54, .aload_n 0, 1), (55, .getfield 28, 3), (58, .invokevirtual 227, 3), (61, .ifCond .eq 7, 3), (64, .iload_n 3, 1), (65, .iconst 1, 1), (66, .iadd, 1), (67, .istore_n 2, 1), (68, .iinc 3 1, 3), (71, .goto (-36), 3), (74, .iload_n 2, 1), (75, .ireturn, 1)]
theorem da_cX4_reach_0 : dk_all cX4_reach dt_cX4_reach_0 = true := by decide +kernel
theorem dX4_reach_0 : decode cX4_reach 0 = .ok (.aload_n 0, 1) := dk_get _ da_cX4_reach_0 0 _ _ _ rfl
theorem dX4_reach_1 : decode cX4_reach 1 = .ok (.getfield 12, 3) := dk_get _ da_cX4_reach_0 1 _ _ _ rfl
theorem dX4_reach_4 : decode cX4_reach 4 = .ok (.iload_n 1, 1) := dk_get _ da_cX4_reach_0 2 _ _ _ rfl
theorem dX4_reach_5 : decode cX4_reach 5 = .ok (.invokevirtual 64, 3) := dk_get _ da_cX4_reach_0 3 _ _ _ rfl
theorem dX4_reach_8 : decode cX4_reach 8 = .ok (.ifCond .ne 5, 3) := dk_get _ da_cX4_reach_0 4 _ _ _ rfl
theorem dX4_reach_11 : decode cX4_reach 11 = .ok (.iconst (-1), 1) := dk_get _ da_cX4_reach_0 5 _ _ _ rfl
theorem dX4_reach_12 : decode cX4_reach 12 = .ok (.ireturn, 1) := dk_get _ da_cX4_reach_0 6 _ _ _ rfl
theorem dX4_reach_13 : decode cX4_reach 13 = .ok (.aload_n 0, 1) := dk_get _ da_cX4_reach_0 7 _ _ _ rfl
theorem dX4_reach_14 : decode cX4_reach 14 = .ok (.getfield 28, 3) := dk_get _ da_cX4_reach_0 8 _ _ _ rfl
theorem dX4_reach_17 : decode cX4_reach 17 = .ok (.aload_n 0, 1) := dk_get _ da_cX4_reach_0 9 _ _ _ rfl
theorem dX4_reach_18 : decode cX4_reach 18 = .ok (.getfield 12, 3) := dk_get _ da_cX4_reach_0 10 _ _ _ rfl
theorem dX4_reach_21 : decode cX4_reach 21 = .ok (.invokevirtual 117, 3) := dk_get _ da_cX4_reach_0 11 _ _ _ rfl
theorem dX4_reach_24 : decode cX4_reach 24 = .ok (.aload_n 0, 1) := dk_get _ da_cX4_reach_0 12 _ _ _ rfl
theorem dX4_reach_25 : decode cX4_reach 25 = .ok (.getfield 28, 3) := dk_get _ da_cX4_reach_0 13 _ _ _ rfl
theorem dX4_reach_28 : decode cX4_reach 28 = .ok (.invokevirtual 221, 3) := dk_get _ da_cX4_reach_0 14 _ _ _ rfl
theorem dX4_reach_31 : decode cX4_reach 31 = .ok (.iconst (-1), 1) := dk_get _ da_cX4_reach_0 15 _ _ _ rfl
theorem dX4_reach_32 : decode cX4_reach 32 = .ok (.istore_n 2, 1) := dk_get _ da_cX4_reach_0 16 _ _ _ rfl
theorem dX4_reach_33 : decode cX4_reach 33 = .ok (.iload_n 1, 1) := dk_get _ da_cX4_reach_0 17 _ _ _ rfl
theorem dX4_reach_34 : decode cX4_reach 34 = .ok (.istore_n 3, 1) := dk_get _ da_cX4_reach_0 18 _ _ _ rfl
theorem dX4_reach_35 : decode cX4_reach 35 = .ok (.iload_n 3, 1) := dk_get _ da_cX4_reach_0 19 _ _ _ rfl
theorem dX4_reach_36 : decode cX4_reach 36 = .ok (.aload_n 0, 1) := dk_get _ da_cX4_reach_0 20 _ _ _ rfl
theorem dX4_reach_37 : decode cX4_reach 37 = .ok (.getfield 12, 3) := dk_get _ da_cX4_reach_0 21 _ _ _ rfl
theorem dX4_reach_40 : decode cX4_reach 40 = .ok (.getfield 57, 3) := dk_get _ da_cX4_reach_0 22 _ _ _ rfl
theorem dX4_reach_43 : decode cX4_reach 43 = .ok (.if_icmp .ge 31, 3) := dk_get _ da_cX4_reach_0 23 _ _ _ rfl
theorem dX4_reach_46 : decode cX4_reach 46 = .ok (.aload_n 0, 1) := dk_get _ da_cX4_reach_0 24 _ _ _ rfl
theorem dX4_reach_47 : decode cX4_reach 47 = .ok (.getfield 28, 3) := dk_get _ da_cX4_reach_0 25 _ _ _ rfl
theorem dX4_reach_50 : decode cX4_reach 50 = .ok (.iload_n 3, 1) := dk_get _ da_cX4_reach_0 26 _ _ _ rfl
theorem dX4_reach_51 : decode cX4_reach 51 = .ok (.invokevirtual 224, 3) := dk_get _ da_cX4_reach_0 27 _ _ _ rfl
theorem dX4_reach_54 : decode cX4_reach 54 = .ok (.aload_n 0, 1) := dk_get _ da_cX4_reach_0 28 _ _ _ rfl
theorem dX4_reach_55 : decode cX4_reach 55 = .ok (.getfield 28, 3) := dk_get _ da_cX4_reach_0 29 _ _ _ rfl
theorem dX4_reach_58 : decode cX4_reach 58 = .ok (.invokevirtual 227, 3) := dk_get _ da_cX4_reach_0 30 _ _ _ rfl
theorem dX4_reach_61 : decode cX4_reach 61 = .ok (.ifCond .eq 7, 3) := dk_get _ da_cX4_reach_0 31 _ _ _ rfl
theorem dX4_reach_64 : decode cX4_reach 64 = .ok (.iload_n 3, 1) := dk_get _ da_cX4_reach_0 32 _ _ _ rfl
theorem dX4_reach_65 : decode cX4_reach 65 = .ok (.iconst 1, 1) := dk_get _ da_cX4_reach_0 33 _ _ _ rfl
theorem dX4_reach_66 : decode cX4_reach 66 = .ok (.iadd, 1) := dk_get _ da_cX4_reach_0 34 _ _ _ rfl
theorem dX4_reach_67 : decode cX4_reach 67 = .ok (.istore_n 2, 1) := dk_get _ da_cX4_reach_0 35 _ _ _ rfl
theorem dX4_reach_68 : decode cX4_reach 68 = .ok (.iinc 3 1, 3) := dk_get _ da_cX4_reach_0 36 _ _ _ rfl
theorem dX4_reach_71 : decode cX4_reach 71 = .ok (.goto (-36), 3) := dk_get _ da_cX4_reach_0 37 _ _ _ rfl
theorem dX4_reach_74 : decode cX4_reach 74 = .ok (.iload_n 2, 1) := dk_get _ da_cX4_reach_0 38 _ _ _ rfl
theorem dX4_reach_75 : decode cX4_reach 75 = .ok (.ireturn, 1) := dk_get _ da_cX4_reach_0 39 _ _ _ rfl
theorem mi_wsX4_parted_wsX4_parted_r1 : ∀ w ∈ wsX4_parted_r1, w ∈ wsX4_parted := fun _ h => (List.mem_cons_of_mem _ (List.mem_append_left _ (List.mem_append_left _ (List.mem_append_left _ (List.mem_append_left _ h)))))
theorem mi_wsX4_parted_wsX00 : ∀ w ∈ wsX00, w ∈ wsX4_parted := fun _ h => (List.mem_cons_of_mem _ (List.mem_append_left _ (List.mem_append_right _ h)))
set_option maxRecDepth 20000 in
theorem ggX4_parted_X0_hasRange : GoodIn wsX4_parted wsX0_hasRange := goodIn_k _ [(wsX4_parted_r1, [11, 12]), (wsX00, [0, 1])] (gk_c mi_wsX4_parted_wsX4_parted_r1 (gk_c mi_wsX4_parted_wsX00 gk_n)) rfl (by decide +kernel)
set_option maxRecDepth 20000 in
theorem gX4_parted_X0_hasRange : GoodIn wsX4_parted (wsV RX4 79 RX0 yX0_hasRange wsX0_hasRange) := goodIn_app (goodIn_k _ [(wsX4_parted_r1, [7, 8, 9, 10])] (gk_c mi_wsX4_parted_wsX4_parted_r1 gk_n) rfl (by decide +kernel)) ggX4_parted_X0_hasRange
theorem mi_wsX4_parted_wsX4_parted_r2 : ∀ w ∈ wsX4_parted_r2, w ∈ wsX4_parted := fun _ h => (List.mem_cons_of_mem _ (List.mem_append_left _ (List.mem_append_left _ (List.mem_append_left _ (List.mem_append_right _ h)))))
theorem mi_wsX4_parted_wsX10 : ∀ w ∈ wsX10, w ∈ wsX4_parted := fun _ h => (List.mem_cons_of_mem _ (List.mem_append_right _ h))
set_option maxRecDepth 20000 in
theorem ggX4_parted_X1_learn : GoodIn wsX4_parted wsX1_learn := goodIn_k _ [(wsX4_parted_r1, [17, 18, 19, 20, 21, 22, 10, 23]), (wsX4_parted_r2, [0]), (wsX00, [0, 1]), (wsX10, [0, 1, 2, 3])] (gk_c mi_wsX4_parted_wsX4_parted_r1 (gk_c mi_wsX4_parted_wsX4_parted_r2 (gk_c mi_wsX4_parted_wsX00 (gk_c mi_wsX4_parted_wsX10 gk_n)))) rfl (by decide +kernel)
set_option maxRecDepth 20000 in
theorem gX4_parted_X1_learn : GoodIn wsX4_parted (wsV RX4 117 RX1 yX1_learn wsX1_learn) := goodIn_app (goodIn_k _ [(wsX4_parted_r1, [13, 14, 15, 16])] (gk_c mi_wsX4_parted_wsX4_parted_r1 gk_n) rfl (by decide +kernel)) ggX4_parted_X1_learn
set_option maxRecDepth 20000 in
theorem ggX4_parted_J7_fill_53178 : GoodIn wsX4_parted wsJ7_fill_53178 := goodIn_k _ [(wsX4_parted_r2, [4])] (gk_c mi_wsX4_parted_wsX4_parted_r2 gk_n) rfl (by decide +kernel)
set_option maxRecDepth 20000 in
theorem gX4_parted_J7_fill_53178 : GoodIn wsX4_parted (va_wsS RX4 231 yJ7_fill_53178 wsJ7_fill_53178) := goodIn_app (goodIn_k _ [(wsX4_parted_r2, [1, 2, 3])] (gk_c mi_wsX4_parted_wsX4_parted_r2 gk_n) rfl (by decide +kernel)) ggX4_parted_J7_fill_53178
set_option maxRecDepth 20000 in
theorem ggX4_parted_X1_clear : GoodIn wsX4_parted wsX1_clear := goodIn_k _ [(wsX4_parted_r2, [8, 9, 10, 11, 12, 2, 3, 4]), (wsX10, [0, 1, 2, 3])] (gk_c mi_wsX4_parted_wsX4_parted_r2 (gk_c mi_wsX4_parted_wsX10 gk_n)) rfl (by decide +kernel)
set_option maxRecDepth 20000 in
theorem gX4_parted_X1_clear : GoodIn wsX4_parted (wsV RX4 221 RX1 yX1_clear wsX1_clear) := goodIn_app (goodIn_k _ [(wsX4_parted_r2, [5, 6, 7]), (wsX4_parted_r1, [16])] (gk_c mi_wsX4_parted_wsX4_parted_r2 (gk_c mi_wsX4_parted_wsX4_parted_r1 gk_n)) rfl (by decide +kernel)) ggX4_parted_X1_clear
set_option maxRecDepth 20000 in
theorem ggX4_parted_X1_take : GoodIn wsX4_parted wsX1_take := goodIn_k _ [(wsX4_parted_r2, [16, 9]), (wsX4_parted_r1, [19]), (wsX4_parted_r2, [10, 11]), (wsX10, [0, 1, 2, 3])] (gk_c mi_wsX4_parted_wsX4_parted_r2 (gk_c mi_wsX4_parted_wsX4_parted_r1 (gk_c mi_wsX4_parted_wsX4_parted_r2 (gk_c mi_wsX4_parted_wsX10 gk_n)))) rfl (by decide +kernel)
set_option maxRecDepth 20000 in
theorem gX4_parted_X1_take : GoodIn wsX4_parted (wsV RX4 224 RX1 yX1_take wsX1_take) := goodIn_app (goodIn_k _ [(wsX4_parted_r2, [13, 14, 15]), (wsX4_parted_r1, [16])] (gk_c mi_wsX4_parted_wsX4_parted_r2 (gk_c mi_wsX4_parted_wsX4_parted_r1 gk_n)) rfl (by decide +kernel)) ggX4_parted_X1_take
set_option maxRecDepth 20000 in
theorem ggX4_parted_X1_hasMajority : GoodIn wsX4_parted wsX1_hasMajority := goodIn_k _ [(wsX4_parted_r2, [20, 11, 10]), (wsX10, [0, 1, 2, 3])] (gk_c mi_wsX4_parted_wsX4_parted_r2 (gk_c mi_wsX4_parted_wsX10 gk_n)) rfl (by decide +kernel)
set_option maxRecDepth 20000 in
theorem gX4_parted_X1_hasMajority : GoodIn wsX4_parted (wsV RX4 227 RX1 yX1_hasMajority wsX1_hasMajority) := goodIn_app (goodIn_k _ [(wsX4_parted_r2, [17, 18, 19]), (wsX4_parted_r1, [16])] (gk_c mi_wsX4_parted_wsX4_parted_r2 (gk_c mi_wsX4_parted_wsX4_parted_r1 gk_n)) rfl (by decide +kernel)) ggX4_parted_X1_hasMajority
def dt_cX4_parted_0 : List (Nat × Instr × Nat) := [(0, .aload_n 0, 1), (1, .getfield 12, 3), (4, .iload_n 1, 1), (5, .iload_n 2, 1), (6, .invokevirtual 79, 3), (9, .ifCond .ne 5, 3), (12, .iconst (-1), 1), (13, .ireturn, 1), (14, .aload_n 0, 1), (15, .getfield 28, 3), (18, .aload_n 0, 1), (19, .getfield 12, 3), (22, .invokevirtual 117, 3), (25, .aload_n 0, 1), (26, .getfield 46, 3), (29, .iload_n 2, 1), (30, .iload_n 1, 1), (31, .isub, 1), (32, .invokestatic 231, 3), (35, .aload_n 0, 1), (36, .getfield 46, 3), (39, .iload_n 1, 1), (40, .iconst 0, 1), (41, .iastore, 1), (42, .iload_n 1, 1), (43, .istore_n 3, 1), (44, .iload_n 3, 1), (45, .iload_n 2, 1), (46, .if_icmp .ge 79, 3), (49, .aload_n 0, 1), (50, .getfield 28, 3), (53, .invokevirtual 221, 3), (56, .iload_n 3, 1), (57, .istore 4, 2), (59, .iload 4, 2), (61, .iload_n 2, 1), (62, .if_icmp .ge 57, 3), (65, .aload_n 0, 1), (66, .getfield 28, 3), (69, .iload 4, 2), (71, .invokevirtual 224, 3), (74, .aload_n 0, 1), (75, .getfield 28, 3), (78, .invokevirtual 227, 3), (81, .ifCond .eq 32, 3), (84, .aload_n 0, 1), (85, .getfield 46, 3), (88, .iload 4, 2), (90, .iconst 1, 1), (91, .iadd, 1), (92, .aload_n 0, 1), (93, .getfield 46, 3), (96, .iload 4, 2), (98, .iconst 1, 1), (99, .iadd, 1), (100, .iaload, 1), (101, .aload_n 0, 1), (102, .getfield 46, 3), (105, .iload_n 3, 1), (106, .iaload, 1)]
theorem da_cX4_parted_0 : dk_all cX4_parted dt_cX4_parted_0 = true := by decide +kernel
theorem dX4_parted_0 : decode cX4_parted 0 = .ok (.aload_n 0, 1) := dk_get _ da_cX4_parted_0 0 _ _ _ rfl
theorem dX4_parted_1 : decode cX4_parted 1 = .ok (.getfield 12, 3) := dk_get _ da_cX4_parted_0 1 _ _ _ rfl
theorem dX4_parted_4 : decode cX4_parted 4 = .ok (.iload_n 1, 1) := dk_get _ da_cX4_parted_0 2 _ _ _ rfl
theorem dX4_parted_5 : decode cX4_parted 5 = .ok (.iload_n 2, 1) := dk_get _ da_cX4_parted_0 3 _ _ _ rfl
theorem dX4_parted_6 : decode cX4_parted 6 = .ok (.invokevirtual 79, 3) := dk_get _ da_cX4_parted_0 4 _ _ _ rfl
theorem dX4_parted_9 : decode cX4_parted 9 = .ok (.ifCond .ne 5, 3) := dk_get _ da_cX4_parted_0 5 _ _ _ rfl
theorem dX4_parted_12 : decode cX4_parted 12 = .ok (.iconst (-1), 1) := dk_get _ da_cX4_parted_0 6 _ _ _ rfl
theorem dX4_parted_13 : decode cX4_parted 13 = .ok (.ireturn, 1) := dk_get _ da_cX4_parted_0 7 _ _ _ rfl
theorem dX4_parted_14 : decode cX4_parted 14 = .ok (.aload_n 0, 1) := dk_get _ da_cX4_parted_0 8 _ _ _ rfl
theorem dX4_parted_15 : decode cX4_parted 15 = .ok (.getfield 28, 3) := dk_get _ da_cX4_parted_0 9 _ _ _ rfl
theorem dX4_parted_18 : decode cX4_parted 18 = .ok (.aload_n 0, 1) := dk_get _ da_cX4_parted_0 10 _ _ _ rfl
theorem dX4_parted_19 : decode cX4_parted 19 = .ok (.getfield 12, 3) := dk_get _ da_cX4_parted_0 11 _ _ _ rfl
theorem dX4_parted_22 : decode cX4_parted 22 = .ok (.invokevirtual 117, 3) := dk_get _ da_cX4_parted_0 12 _ _ _ rfl
theorem dX4_parted_25 : decode cX4_parted 25 = .ok (.aload_n 0, 1) := dk_get _ da_cX4_parted_0 13 _ _ _ rfl
theorem dX4_parted_26 : decode cX4_parted 26 = .ok (.getfield 46, 3) := dk_get _ da_cX4_parted_0 14 _ _ _ rfl
theorem dX4_parted_29 : decode cX4_parted 29 = .ok (.iload_n 2, 1) := dk_get _ da_cX4_parted_0 15 _ _ _ rfl
theorem dX4_parted_30 : decode cX4_parted 30 = .ok (.iload_n 1, 1) := dk_get _ da_cX4_parted_0 16 _ _ _ rfl
theorem dX4_parted_31 : decode cX4_parted 31 = .ok (.isub, 1) := dk_get _ da_cX4_parted_0 17 _ _ _ rfl
theorem dX4_parted_32 : decode cX4_parted 32 = .ok (.invokestatic 231, 3) := dk_get _ da_cX4_parted_0 18 _ _ _ rfl
theorem dX4_parted_35 : decode cX4_parted 35 = .ok (.aload_n 0, 1) := dk_get _ da_cX4_parted_0 19 _ _ _ rfl
theorem dX4_parted_36 : decode cX4_parted 36 = .ok (.getfield 46, 3) := dk_get _ da_cX4_parted_0 20 _ _ _ rfl
theorem dX4_parted_39 : decode cX4_parted 39 = .ok (.iload_n 1, 1) := dk_get _ da_cX4_parted_0 21 _ _ _ rfl
theorem dX4_parted_40 : decode cX4_parted 40 = .ok (.iconst 0, 1) := dk_get _ da_cX4_parted_0 22 _ _ _ rfl
theorem dX4_parted_41 : decode cX4_parted 41 = .ok (.iastore, 1) := dk_get _ da_cX4_parted_0 23 _ _ _ rfl
theorem dX4_parted_42 : decode cX4_parted 42 = .ok (.iload_n 1, 1) := dk_get _ da_cX4_parted_0 24 _ _ _ rfl
theorem dX4_parted_43 : decode cX4_parted 43 = .ok (.istore_n 3, 1) := dk_get _ da_cX4_parted_0 25 _ _ _ rfl
theorem dX4_parted_44 : decode cX4_parted 44 = .ok (.iload_n 3, 1) := dk_get _ da_cX4_parted_0 26 _ _ _ rfl
theorem dX4_parted_45 : decode cX4_parted 45 = .ok (.iload_n 2, 1) := dk_get _ da_cX4_parted_0 27 _ _ _ rfl
theorem dX4_parted_46 : decode cX4_parted 46 = .ok (.if_icmp .ge 79, 3) := dk_get _ da_cX4_parted_0 28 _ _ _ rfl
theorem dX4_parted_49 : decode cX4_parted 49 = .ok (.aload_n 0, 1) := dk_get _ da_cX4_parted_0 29 _ _ _ rfl
theorem dX4_parted_50 : decode cX4_parted 50 = .ok (.getfield 28, 3) := dk_get _ da_cX4_parted_0 30 _ _ _ rfl
theorem dX4_parted_53 : decode cX4_parted 53 = .ok (.invokevirtual 221, 3) := dk_get _ da_cX4_parted_0 31 _ _ _ rfl
theorem dX4_parted_56 : decode cX4_parted 56 = .ok (.iload_n 3, 1) := dk_get _ da_cX4_parted_0 32 _ _ _ rfl
theorem dX4_parted_57 : decode cX4_parted 57 = .ok (.istore 4, 2) := dk_get _ da_cX4_parted_0 33 _ _ _ rfl
theorem dX4_parted_59 : decode cX4_parted 59 = .ok (.iload 4, 2) := dk_get _ da_cX4_parted_0 34 _ _ _ rfl
theorem dX4_parted_61 : decode cX4_parted 61 = .ok (.iload_n 2, 1) := dk_get _ da_cX4_parted_0 35 _ _ _ rfl
theorem dX4_parted_62 : decode cX4_parted 62 = .ok (.if_icmp .ge 57, 3) := dk_get _ da_cX4_parted_0 36 _ _ _ rfl
theorem dX4_parted_65 : decode cX4_parted 65 = .ok (.aload_n 0, 1) := dk_get _ da_cX4_parted_0 37 _ _ _ rfl
theorem dX4_parted_66 : decode cX4_parted 66 = .ok (.getfield 28, 3) := dk_get _ da_cX4_parted_0 38 _ _ _ rfl
theorem dX4_parted_69 : decode cX4_parted 69 = .ok (.iload 4, 2) := dk_get _ da_cX4_parted_0 39 _ _ _ rfl
theorem dX4_parted_71 : decode cX4_parted 71 = .ok (.invokevirtual 224, 3) := dk_get _ da_cX4_parted_0 40 _ _ _ rfl
theorem dX4_parted_74 : decode cX4_parted 74 = .ok (.aload_n 0, 1) := dk_get _ da_cX4_parted_0 41 _ _ _ rfl
theorem dX4_parted_75 : decode cX4_parted 75 = .ok (.getfield 28, 3) := dk_get _ da_cX4_parted_0 42 _ _ _ rfl
theorem dX4_parted_78 : decode cX4_parted 78 = .ok (.invokevirtual 227, 3) := dk_get _ da_cX4_parted_0 43 _ _ _ rfl
theorem dX4_parted_81 : decode cX4_parted 81 = .ok (.ifCond .eq 32, 3) := dk_get _ da_cX4_parted_0 44 _ _ _ rfl
theorem dX4_parted_84 : decode cX4_parted 84 = .ok (.aload_n 0, 1) := dk_get _ da_cX4_parted_0 45 _ _ _ rfl
theorem dX4_parted_85 : decode cX4_parted 85 = .ok (.getfield 46, 3) := dk_get _ da_cX4_parted_0 46 _ _ _ rfl
theorem dX4_parted_88 : decode cX4_parted 88 = .ok (.iload 4, 2) := dk_get _ da_cX4_parted_0 47 _ _ _ rfl
theorem dX4_parted_90 : decode cX4_parted 90 = .ok (.iconst 1, 1) := dk_get _ da_cX4_parted_0 48 _ _ _ rfl
theorem dX4_parted_91 : decode cX4_parted 91 = .ok (.iadd, 1) := dk_get _ da_cX4_parted_0 49 _ _ _ rfl
theorem dX4_parted_92 : decode cX4_parted 92 = .ok (.aload_n 0, 1) := dk_get _ da_cX4_parted_0 50 _ _ _ rfl
theorem dX4_parted_93 : decode cX4_parted 93 = .ok (.getfield 46, 3) := dk_get _ da_cX4_parted_0 51 _ _ _ rfl
theorem dX4_parted_96 : decode cX4_parted 96 = .ok (.iload 4, 2) := dk_get _ da_cX4_parted_0 52 _ _ _ rfl
theorem dX4_parted_98 : decode cX4_parted 98 = .ok (.iconst 1, 1) := dk_get _ da_cX4_parted_0 53 _ _ _ rfl
theorem dX4_parted_99 : decode cX4_parted 99 = .ok (.iadd, 1) := dk_get _ da_cX4_parted_0 54 _ _ _ rfl
theorem dX4_parted_100 : decode cX4_parted 100 = .ok (.iaload, 1) := dk_get _ da_cX4_parted_0 55 _ _ _ rfl
theorem dX4_parted_101 : decode cX4_parted 101 = .ok (.aload_n 0, 1) := dk_get _ da_cX4_parted_0 56 _ _ _ rfl
theorem dX4_parted_102 : decode cX4_parted 102 = .ok (.getfield 46, 3) := dk_get _ da_cX4_parted_0 57 _ _ _ rfl
theorem dX4_parted_105 : decode cX4_parted 105 = .ok (.iload_n 3, 1) := dk_get _ da_cX4_parted_0 58 _ _ _ rfl
theorem dX4_parted_106 : decode cX4_parted 106 = .ok (.iaload, 1) := dk_get _ da_cX4_parted_0 59 _ _ _ rfl
def dt_cX4_parted_1 : List (Nat × Instr × Nat) := [(107, .iconst 1, 1), (108, .iadd, 1), (109, .invokestatic 91, 3), (112, .iastore, 1), (113, .iinc 4 1, 3), (116, .goto (-57), 3), (119, .iinc 3 1, 3), (122, .goto (-78), 3), (125, .aload_n 0, 1), (126, .getfield 46, 3), (129, .iload_n 2, 1), (130, .iaload, 1), (131, .ireturn, 1)]
theorem da_cX4_parted_1 : dk_all cX4_parted dt_cX4_parted_1 = true := by decide +kernel
theorem dX4_parted_107 : decode cX4_parted 107 = .ok (.iconst 1, 1) := dk_get _ da_cX4_parted_1 0 _ _ _ rfl
theorem dX4_parted_108 : decode cX4_parted 108 = .ok (.iadd, 1) := dk_get _ da_cX4_parted_1 1 _ _ _ rfl
theorem dX4_parted_109 : decode cX4_parted 109 = .ok (.invokestatic 91, 3) := dk_get _ da_cX4_parted_1 2 _ _ _ rfl
theorem dX4_parted_112 : decode cX4_parted 112 = .ok (.iastore, 1) := dk_get _ da_cX4_parted_1 3 _ _ _ rfl
theorem dX4_parted_113 : decode cX4_parted 113 = .ok (.iinc 4 1, 3) := dk_get _ da_cX4_parted_1 4 _ _ _ rfl
theorem dX4_parted_116 : decode cX4_parted 116 = .ok (.goto (-57), 3) := dk_get _ da_cX4_parted_1 5 _ _ _ rfl
theorem dX4_parted_119 : decode cX4_parted 119 = .ok (.iinc 3 1, 3) := dk_get _ da_cX4_parted_1 6 _ _ _ rfl
theorem dX4_parted_122 : decode cX4_parted 122 = .ok (.goto (-78), 3) := dk_get _ da_cX4_parted_1 7 _ _ _ rfl
theorem dX4_parted_125 : decode cX4_parted 125 = .ok (.aload_n 0, 1) := dk_get _ da_cX4_parted_1 8 _ _ _ rfl
theorem dX4_parted_126 : decode cX4_parted 126 = .ok (.getfield 46, 3) := dk_get _ da_cX4_parted_1 9 _ _ _ rfl
theorem dX4_parted_129 : decode cX4_parted 129 = .ok (.iload_n 2, 1) := dk_get _ da_cX4_parted_1 10 _ _ _ rfl
theorem dX4_parted_130 : decode cX4_parted 130 = .ok (.iaload, 1) := dk_get _ da_cX4_parted_1 11 _ _ _ rfl
theorem dX4_parted_131 : decode cX4_parted 131 = .ok (.ireturn, 1) := dk_get _ da_cX4_parted_1 12 _ _ _ rfl
set_option maxRecDepth 20000 in
theorem ggX4_cut_X0_hasRange : GoodIn wsX4_cut wsX0_hasRange := goodIn_r _ [7, 8, 31, 32] rfl (by decide +kernel)
set_option maxRecDepth 20000 in
theorem gX4_cut_X0_hasRange : GoodIn wsX4_cut (wsV RX4 79 RX0 yX0_hasRange wsX0_hasRange) := goodIn_app (goodIn_r _ [3, 4, 5, 6] rfl (by decide +kernel)) ggX4_cut_X0_hasRange
set_option maxRecDepth 20000 in
theorem ggX4_cut_X0_leader : GoodIn wsX4_cut wsX0_leader := goodIn_r _ [12, 13, 14, 15, 16, 17, 6, 18, 19, 20, 21, 31, 32] rfl (by decide +kernel)
set_option maxRecDepth 20000 in
theorem gX4_cut_X0_leader : GoodIn wsX4_cut (wsV RX4 207 RX0 yX0_leader wsX0_leader) := goodIn_app (goodIn_r _ [9, 10, 11, 6] rfl (by decide +kernel)) ggX4_cut_X0_leader
def dt_cX4_cut_0 : List (Nat × Instr × Nat) := [(0, .aload_n 0, 1), (1, .getfield 12, 3), (4, .iload_n 1, 1), (5, .iload_n 2, 1), (6, .invokevirtual 79, 3), (9, .ifCond .ne 5, 3), (12, .iconst (-1), 1), (13, .ireturn, 1), (14, .iload_n 1, 1), (15, .iconst 1, 1), (16, .iadd, 1), (17, .istore_n 3, 1), (18, .iload_n 3, 1), (19, .iload_n 2, 1), (20, .if_icmp .ge 54, 3), (23, .aload_n 0, 1), (24, .getfield 12, 3), (27, .iload_n 1, 1), (28, .iload_n 3, 1), (29, .invokevirtual 207, 3), (32, .istore 4, 2), (34, .aload_n 0, 1), (35, .getfield 12, 3), (38, .iload_n 3, 1), (39, .iload_n 2, 1), (40, .invokevirtual 207, 3), (43, .istore 5, 2), (45, .iload 4, 2), (47, .ldc 102, 2), (49, .if_icmp .eq 19, 3), (52, .iload 5, 2), (54, .ldc 102, 2), (56, .if_icmp .eq 12, 3), (59, .iload 4, 2), (61, .iload 5, 2), (63, .if_icmp .eq 5, 3), (66, .iload_n 3, 1), (67, .ireturn, 1), (68, .iinc 3 1, 3), (71, .goto (-53), 3), (74, .iconst (-1), 1), (75, .ireturn, 1)]
theorem da_cX4_cut_0 : dk_all cX4_cut dt_cX4_cut_0 = true := by decide +kernel
theorem dX4_cut_0 : decode cX4_cut 0 = .ok (.aload_n 0, 1) := dk_get _ da_cX4_cut_0 0 _ _ _ rfl
theorem dX4_cut_1 : decode cX4_cut 1 = .ok (.getfield 12, 3) := dk_get _ da_cX4_cut_0 1 _ _ _ rfl
theorem dX4_cut_4 : decode cX4_cut 4 = .ok (.iload_n 1, 1) := dk_get _ da_cX4_cut_0 2 _ _ _ rfl
theorem dX4_cut_5 : decode cX4_cut 5 = .ok (.iload_n 2, 1) := dk_get _ da_cX4_cut_0 3 _ _ _ rfl
theorem dX4_cut_6 : decode cX4_cut 6 = .ok (.invokevirtual 79, 3) := dk_get _ da_cX4_cut_0 4 _ _ _ rfl
theorem dX4_cut_9 : decode cX4_cut 9 = .ok (.ifCond .ne 5, 3) := dk_get _ da_cX4_cut_0 5 _ _ _ rfl
theorem dX4_cut_12 : decode cX4_cut 12 = .ok (.iconst (-1), 1) := dk_get _ da_cX4_cut_0 6 _ _ _ rfl
theorem dX4_cut_13 : decode cX4_cut 13 = .ok (.ireturn, 1) := dk_get _ da_cX4_cut_0 7 _ _ _ rfl
theorem dX4_cut_14 : decode cX4_cut 14 = .ok (.iload_n 1, 1) := dk_get _ da_cX4_cut_0 8 _ _ _ rfl
theorem dX4_cut_15 : decode cX4_cut 15 = .ok (.iconst 1, 1) := dk_get _ da_cX4_cut_0 9 _ _ _ rfl
theorem dX4_cut_16 : decode cX4_cut 16 = .ok (.iadd, 1) := dk_get _ da_cX4_cut_0 10 _ _ _ rfl
theorem dX4_cut_17 : decode cX4_cut 17 = .ok (.istore_n 3, 1) := dk_get _ da_cX4_cut_0 11 _ _ _ rfl
theorem dX4_cut_18 : decode cX4_cut 18 = .ok (.iload_n 3, 1) := dk_get _ da_cX4_cut_0 12 _ _ _ rfl
theorem dX4_cut_19 : decode cX4_cut 19 = .ok (.iload_n 2, 1) := dk_get _ da_cX4_cut_0 13 _ _ _ rfl
theorem dX4_cut_20 : decode cX4_cut 20 = .ok (.if_icmp .ge 54, 3) := dk_get _ da_cX4_cut_0 14 _ _ _ rfl
theorem dX4_cut_23 : decode cX4_cut 23 = .ok (.aload_n 0, 1) := dk_get _ da_cX4_cut_0 15 _ _ _ rfl
theorem dX4_cut_24 : decode cX4_cut 24 = .ok (.getfield 12, 3) := dk_get _ da_cX4_cut_0 16 _ _ _ rfl
theorem dX4_cut_27 : decode cX4_cut 27 = .ok (.iload_n 1, 1) := dk_get _ da_cX4_cut_0 17 _ _ _ rfl
theorem dX4_cut_28 : decode cX4_cut 28 = .ok (.iload_n 3, 1) := dk_get _ da_cX4_cut_0 18 _ _ _ rfl
theorem dX4_cut_29 : decode cX4_cut 29 = .ok (.invokevirtual 207, 3) := dk_get _ da_cX4_cut_0 19 _ _ _ rfl
theorem dX4_cut_32 : decode cX4_cut 32 = .ok (.istore 4, 2) := dk_get _ da_cX4_cut_0 20 _ _ _ rfl
theorem dX4_cut_34 : decode cX4_cut 34 = .ok (.aload_n 0, 1) := dk_get _ da_cX4_cut_0 21 _ _ _ rfl
theorem dX4_cut_35 : decode cX4_cut 35 = .ok (.getfield 12, 3) := dk_get _ da_cX4_cut_0 22 _ _ _ rfl
theorem dX4_cut_38 : decode cX4_cut 38 = .ok (.iload_n 3, 1) := dk_get _ da_cX4_cut_0 23 _ _ _ rfl
theorem dX4_cut_39 : decode cX4_cut 39 = .ok (.iload_n 2, 1) := dk_get _ da_cX4_cut_0 24 _ _ _ rfl
theorem dX4_cut_40 : decode cX4_cut 40 = .ok (.invokevirtual 207, 3) := dk_get _ da_cX4_cut_0 25 _ _ _ rfl
theorem dX4_cut_43 : decode cX4_cut 43 = .ok (.istore 5, 2) := dk_get _ da_cX4_cut_0 26 _ _ _ rfl
theorem dX4_cut_45 : decode cX4_cut 45 = .ok (.iload 4, 2) := dk_get _ da_cX4_cut_0 27 _ _ _ rfl
theorem dX4_cut_47 : decode cX4_cut 47 = .ok (.ldc 102, 2) := dk_get _ da_cX4_cut_0 28 _ _ _ rfl
theorem dX4_cut_49 : decode cX4_cut 49 = .ok (.if_icmp .eq 19, 3) := dk_get _ da_cX4_cut_0 29 _ _ _ rfl
theorem dX4_cut_52 : decode cX4_cut 52 = .ok (.iload 5, 2) := dk_get _ da_cX4_cut_0 30 _ _ _ rfl
theorem dX4_cut_54 : decode cX4_cut 54 = .ok (.ldc 102, 2) := dk_get _ da_cX4_cut_0 31 _ _ _ rfl
theorem dX4_cut_56 : decode cX4_cut 56 = .ok (.if_icmp .eq 12, 3) := dk_get _ da_cX4_cut_0 32 _ _ _ rfl
theorem dX4_cut_59 : decode cX4_cut 59 = .ok (.iload 4, 2) := dk_get _ da_cX4_cut_0 33 _ _ _ rfl
theorem dX4_cut_61 : decode cX4_cut 61 = .ok (.iload 5, 2) := dk_get _ da_cX4_cut_0 34 _ _ _ rfl
theorem dX4_cut_63 : decode cX4_cut 63 = .ok (.if_icmp .eq 5, 3) := dk_get _ da_cX4_cut_0 35 _ _ _ rfl
theorem dX4_cut_66 : decode cX4_cut 66 = .ok (.iload_n 3, 1) := dk_get _ da_cX4_cut_0 36 _ _ _ rfl
theorem dX4_cut_67 : decode cX4_cut 67 = .ok (.ireturn, 1) := dk_get _ da_cX4_cut_0 37 _ _ _ rfl
theorem dX4_cut_68 : decode cX4_cut 68 = .ok (.iinc 3 1, 3) := dk_get _ da_cX4_cut_0 38 _ _ _ rfl
theorem dX4_cut_71 : decode cX4_cut 71 = .ok (.goto (-53), 3) := dk_get _ da_cX4_cut_0 39 _ _ _ rfl
theorem dX4_cut_74 : decode cX4_cut 74 = .ok (.iconst (-1), 1) := dk_get _ da_cX4_cut_0 40 _ _ _ rfl
theorem dX4_cut_75 : decode cX4_cut 75 = .ok (.ireturn, 1) := dk_get _ da_cX4_cut_0 41 _ _ _ rfl
theorem mi_wsX4_majorities_wsX4_majorities_r1 : ∀ w ∈ wsX4_majorities_r1, w ∈ wsX4_majorities := fun _ h => (List.mem_cons_of_mem _ (List.mem_append_left _ (List.mem_append_left _ (List.mem_append_left _ (List.mem_append_left _ h)))))
theorem mi_wsX4_majorities_wsX00 : ∀ w ∈ wsX00, w ∈ wsX4_majorities := fun _ h => (List.mem_cons_of_mem _ (List.mem_append_left _ (List.mem_append_right _ h)))
theorem mi_wsX4_majorities_wsX10 : ∀ w ∈ wsX10, w ∈ wsX4_majorities := fun _ h => (List.mem_cons_of_mem _ (List.mem_append_right _ h))
set_option maxRecDepth 20000 in
theorem ggX4_majorities_X1_learn : GoodIn wsX4_majorities wsX1_learn := goodIn_k _ [(wsX4_majorities_r1, [7, 8, 9, 10, 11, 12, 13, 14, 15]), (wsX00, [0, 1]), (wsX10, [0, 1, 2, 3])] (gk_c mi_wsX4_majorities_wsX4_majorities_r1 (gk_c mi_wsX4_majorities_wsX00 (gk_c mi_wsX4_majorities_wsX10 gk_n))) rfl (by decide +kernel)
set_option maxRecDepth 20000 in
theorem gX4_majorities_X1_learn : GoodIn wsX4_majorities (wsV RX4 117 RX1 yX1_learn wsX1_learn) := goodIn_app (goodIn_k _ [(wsX4_majorities_r1, [3, 4, 5, 6])] (gk_c mi_wsX4_majorities_wsX4_majorities_r1 gk_n) rfl (by decide +kernel)) ggX4_majorities_X1_learn
theorem mi_wsX4_majorities_wsX4_majorities_r2 : ∀ w ∈ wsX4_majorities_r2, w ∈ wsX4_majorities := fun _ h => (List.mem_cons_of_mem _ (List.mem_append_left _ (List.mem_append_left _ (List.mem_append_left _ (List.mem_append_right _ h)))))
set_option maxRecDepth 20000 in
theorem ggX4_majorities_X1_clear : GoodIn wsX4_majorities wsX1_clear := goodIn_k _ [(wsX4_majorities_r1, [19, 20, 21, 22, 23]), (wsX4_majorities_r2, [0, 1, 2]), (wsX10, [0, 1, 2, 3])] (gk_c mi_wsX4_majorities_wsX4_majorities_r1 (gk_c mi_wsX4_majorities_wsX4_majorities_r2 (gk_c mi_wsX4_majorities_wsX10 gk_n))) rfl (by decide +kernel)
set_option maxRecDepth 20000 in
theorem gX4_majorities_X1_clear : GoodIn wsX4_majorities (wsV RX4 221 RX1 yX1_clear wsX1_clear) := goodIn_app (goodIn_k _ [(wsX4_majorities_r1, [16, 17, 18, 6])] (gk_c mi_wsX4_majorities_wsX4_majorities_r1 gk_n) rfl (by decide +kernel)) ggX4_majorities_X1_clear
set_option maxRecDepth 20000 in
theorem ggX4_majorities_X1_take : GoodIn wsX4_majorities wsX1_take := goodIn_k _ [(wsX4_majorities_r2, [6]), (wsX4_majorities_r1, [20, 9, 21, 22]), (wsX10, [0, 1, 2, 3])] (gk_c mi_wsX4_majorities_wsX4_majorities_r2 (gk_c mi_wsX4_majorities_wsX4_majorities_r1 (gk_c mi_wsX4_majorities_wsX10 gk_n))) rfl (by decide +kernel)
set_option maxRecDepth 20000 in
theorem gX4_majorities_X1_take : GoodIn wsX4_majorities (wsV RX4 224 RX1 yX1_take wsX1_take) := goodIn_app (goodIn_k _ [(wsX4_majorities_r2, [3, 4, 5]), (wsX4_majorities_r1, [6])] (gk_c mi_wsX4_majorities_wsX4_majorities_r2 (gk_c mi_wsX4_majorities_wsX4_majorities_r1 gk_n)) rfl (by decide +kernel)) ggX4_majorities_X1_take
set_option maxRecDepth 20000 in
theorem ggX4_majorities_X1_hasMajority : GoodIn wsX4_majorities wsX1_hasMajority := goodIn_k _ [(wsX4_majorities_r2, [10]), (wsX4_majorities_r1, [22, 21]), (wsX10, [0, 1, 2, 3])] (gk_c mi_wsX4_majorities_wsX4_majorities_r2 (gk_c mi_wsX4_majorities_wsX4_majorities_r1 (gk_c mi_wsX4_majorities_wsX10 gk_n))) rfl (by decide +kernel)
set_option maxRecDepth 20000 in
theorem gX4_majorities_X1_hasMajority : GoodIn wsX4_majorities (wsV RX4 227 RX1 yX1_hasMajority wsX1_hasMajority) := goodIn_app (goodIn_k _ [(wsX4_majorities_r2, [7, 8, 9]), (wsX4_majorities_r1, [6])] (gk_c mi_wsX4_majorities_wsX4_majorities_r2 (gk_c mi_wsX4_majorities_wsX4_majorities_r1 gk_n)) rfl (by decide +kernel)) ggX4_majorities_X1_hasMajority
def dt_cX4_majorities_0 : List (Nat × Instr × Nat) := [(0, .aload_n 0, 1), (1, .getfield 28, 3), (4, .aload_n 0, 1), (5, .getfield 12, 3), (8, .invokevirtual 117, 3), (11, .iconst 0, 1), (12, .istore_n 1, 1), (13, .iconst 0, 1), (14, .istore_n 2, 1), (15, .iload_n 2, 1), (16, .aload_n 0, 1), (17, .getfield 12, 3), (20, .getfield 57, 3), (23, .if_icmp .ge 56, 3), (26, .aload_n 0, 1), (27, .getfield 28, 3), (30, .invokevirtual 221, 3), (33, .iload_n 2, 1), (34, .istore_n 3, 1), (35, .iload_n 3, 1), (36, .aload_n 0, 1), (37, .getfield 12, 3), (40, .getfield 57, 3), (43, .if_icmp .ge 30, 3), (46, .aload_n 0, 1), (47, .getfield 28, 3), (50, .iload_n 3, 1), (51, .invokevirtual 224, 3), (54, .aload_n 0, 1), (55, .getfield 28, 3), (58, .invokevirtual 227, 3), (61, .ifCond .eq 6, 3), (64, .iinc 1 1, 3), (67, .iinc 3 1, 3), (70, .goto (-35), 3), (73, .iinc 2 1, 3), (76, .goto (-61), 3), (79, .iload_n 1, 1), (80, .ireturn, 1)]
theorem da_cX4_majorities_0 : dk_all cX4_majorities dt_cX4_majorities_0 = true := by decide +kernel
theorem dX4_majorities_0 : decode cX4_majorities 0 = .ok (.aload_n 0, 1) := dk_get _ da_cX4_majorities_0 0 _ _ _ rfl
theorem dX4_majorities_1 : decode cX4_majorities 1 = .ok (.getfield 28, 3) := dk_get _ da_cX4_majorities_0 1 _ _ _ rfl
theorem dX4_majorities_4 : decode cX4_majorities 4 = .ok (.aload_n 0, 1) := dk_get _ da_cX4_majorities_0 2 _ _ _ rfl
theorem dX4_majorities_5 : decode cX4_majorities 5 = .ok (.getfield 12, 3) := dk_get _ da_cX4_majorities_0 3 _ _ _ rfl
theorem dX4_majorities_8 : decode cX4_majorities 8 = .ok (.invokevirtual 117, 3) := dk_get _ da_cX4_majorities_0 4 _ _ _ rfl
theorem dX4_majorities_11 : decode cX4_majorities 11 = .ok (.iconst 0, 1) := dk_get _ da_cX4_majorities_0 5 _ _ _ rfl
theorem dX4_majorities_12 : decode cX4_majorities 12 = .ok (.istore_n 1, 1) := dk_get _ da_cX4_majorities_0 6 _ _ _ rfl
theorem dX4_majorities_13 : decode cX4_majorities 13 = .ok (.iconst 0, 1) := dk_get _ da_cX4_majorities_0 7 _ _ _ rfl
theorem dX4_majorities_14 : decode cX4_majorities 14 = .ok (.istore_n 2, 1) := dk_get _ da_cX4_majorities_0 8 _ _ _ rfl
theorem dX4_majorities_15 : decode cX4_majorities 15 = .ok (.iload_n 2, 1) := dk_get _ da_cX4_majorities_0 9 _ _ _ rfl
theorem dX4_majorities_16 : decode cX4_majorities 16 = .ok (.aload_n 0, 1) := dk_get _ da_cX4_majorities_0 10 _ _ _ rfl
theorem dX4_majorities_17 : decode cX4_majorities 17 = .ok (.getfield 12, 3) := dk_get _ da_cX4_majorities_0 11 _ _ _ rfl
theorem dX4_majorities_20 : decode cX4_majorities 20 = .ok (.getfield 57, 3) := dk_get _ da_cX4_majorities_0 12 _ _ _ rfl
theorem dX4_majorities_23 : decode cX4_majorities 23 = .ok (.if_icmp .ge 56, 3) := dk_get _ da_cX4_majorities_0 13 _ _ _ rfl
theorem dX4_majorities_26 : decode cX4_majorities 26 = .ok (.aload_n 0, 1) := dk_get _ da_cX4_majorities_0 14 _ _ _ rfl
theorem dX4_majorities_27 : decode cX4_majorities 27 = .ok (.getfield 28, 3) := dk_get _ da_cX4_majorities_0 15 _ _ _ rfl
theorem dX4_majorities_30 : decode cX4_majorities 30 = .ok (.invokevirtual 221, 3) := dk_get _ da_cX4_majorities_0 16 _ _ _ rfl
theorem dX4_majorities_33 : decode cX4_majorities 33 = .ok (.iload_n 2, 1) := dk_get _ da_cX4_majorities_0 17 _ _ _ rfl
theorem dX4_majorities_34 : decode cX4_majorities 34 = .ok (.istore_n 3, 1) := dk_get _ da_cX4_majorities_0 18 _ _ _ rfl
theorem dX4_majorities_35 : decode cX4_majorities 35 = .ok (.iload_n 3, 1) := dk_get _ da_cX4_majorities_0 19 _ _ _ rfl
theorem dX4_majorities_36 : decode cX4_majorities 36 = .ok (.aload_n 0, 1) := dk_get _ da_cX4_majorities_0 20 _ _ _ rfl
theorem dX4_majorities_37 : decode cX4_majorities 37 = .ok (.getfield 12, 3) := dk_get _ da_cX4_majorities_0 21 _ _ _ rfl
theorem dX4_majorities_40 : decode cX4_majorities 40 = .ok (.getfield 57, 3) := dk_get _ da_cX4_majorities_0 22 _ _ _ rfl
theorem dX4_majorities_43 : decode cX4_majorities 43 = .ok (.if_icmp .ge 30, 3) := dk_get _ da_cX4_majorities_0 23 _ _ _ rfl
theorem dX4_majorities_46 : decode cX4_majorities 46 = .ok (.aload_n 0, 1) := dk_get _ da_cX4_majorities_0 24 _ _ _ rfl
theorem dX4_majorities_47 : decode cX4_majorities 47 = .ok (.getfield 28, 3) := dk_get _ da_cX4_majorities_0 25 _ _ _ rfl
theorem dX4_majorities_50 : decode cX4_majorities 50 = .ok (.iload_n 3, 1) := dk_get _ da_cX4_majorities_0 26 _ _ _ rfl
theorem dX4_majorities_51 : decode cX4_majorities 51 = .ok (.invokevirtual 224, 3) := dk_get _ da_cX4_majorities_0 27 _ _ _ rfl
theorem dX4_majorities_54 : decode cX4_majorities 54 = .ok (.aload_n 0, 1) := dk_get _ da_cX4_majorities_0 28 _ _ _ rfl
theorem dX4_majorities_55 : decode cX4_majorities 55 = .ok (.getfield 28, 3) := dk_get _ da_cX4_majorities_0 29 _ _ _ rfl
theorem dX4_majorities_58 : decode cX4_majorities 58 = .ok (.invokevirtual 227, 3) := dk_get _ da_cX4_majorities_0 30 _ _ _ rfl
theorem dX4_majorities_61 : decode cX4_majorities 61 = .ok (.ifCond .eq 6, 3) := dk_get _ da_cX4_majorities_0 31 _ _ _ rfl
theorem dX4_majorities_64 : decode cX4_majorities 64 = .ok (.iinc 1 1, 3) := dk_get _ da_cX4_majorities_0 32 _ _ _ rfl
theorem dX4_majorities_67 : decode cX4_majorities 67 = .ok (.iinc 3 1, 3) := dk_get _ da_cX4_majorities_0 33 _ _ _ rfl
theorem dX4_majorities_70 : decode cX4_majorities 70 = .ok (.goto (-35), 3) := dk_get _ da_cX4_majorities_0 34 _ _ _ rfl
theorem dX4_majorities_73 : decode cX4_majorities 73 = .ok (.iinc 2 1, 3) := dk_get _ da_cX4_majorities_0 35 _ _ _ rfl
theorem dX4_majorities_76 : decode cX4_majorities 76 = .ok (.goto (-61), 3) := dk_get _ da_cX4_majorities_0 36 _ _ _ rfl
theorem dX4_majorities_79 : decode cX4_majorities 79 = .ok (.iload_n 1, 1) := dk_get _ da_cX4_majorities_0 37 _ _ _ rfl
theorem dX4_majorities_80 : decode cX4_majorities 80 = .ok (.ireturn, 1) := dk_get _ da_cX4_majorities_0 38 _ _ _ rfl
theorem mi_wsX4_windows_wsX4_windows_r1 : ∀ w ∈ wsX4_windows_r1, w ∈ wsX4_windows := fun _ h => (List.mem_cons_of_mem _ (List.mem_append_left _ (List.mem_append_left _ (List.mem_append_left _ (List.mem_append_left _ h)))))
set_option maxRecDepth 20000 in
theorem ggX4_windows_X4_isShare : GoodIn wsX4_windows wsX4_isShare := goodIn_k _ [(wsX4_windows_r1, [8])] (gk_c mi_wsX4_windows_wsX4_windows_r1 gk_n) rfl (by decide +kernel)
set_option maxRecDepth 20000 in
theorem gX4_windows_X4_isShare : GoodIn wsX4_windows (va_wsS RX4 186 yX4_isShare wsX4_isShare) := goodIn_app (goodIn_k _ [(wsX4_windows_r1, [5, 6, 7])] (gk_c mi_wsX4_windows_wsX4_windows_r1 gk_n) rfl (by decide +kernel)) ggX4_windows_X4_isShare
theorem mi_wsX4_windows_wsX4_windows_r2 : ∀ w ∈ wsX4_windows_r2, w ∈ wsX4_windows := fun _ h => (List.mem_cons_of_mem _ (List.mem_append_left _ (List.mem_append_left _ (List.mem_append_left _ (List.mem_append_right _ (List.mem_append_left _ h))))))
theorem mi_wsX4_windows_wsX4_windows_r3 : ∀ w ∈ wsX4_windows_r3, w ∈ wsX4_windows := fun _ h => (List.mem_cons_of_mem _ (List.mem_append_left _ (List.mem_append_left _ (List.mem_append_left _ (List.mem_append_right _ (List.mem_append_right _ h))))))
theorem mi_wsX4_windows_wsX40 : ∀ w ∈ wsX40, w ∈ wsX4_windows := fun _ h => (List.mem_cons_of_mem _ (List.mem_append_left _ (List.mem_append_left _ (List.mem_append_right _ h))))
theorem mi_wsX4_windows_wsX00 : ∀ w ∈ wsX00, w ∈ wsX4_windows := fun _ h => (List.mem_cons_of_mem _ (List.mem_append_left _ (List.mem_append_right _ h)))
theorem mi_wsX4_windows_wsX10 : ∀ w ∈ wsX10, w ∈ wsX4_windows := fun _ h => (List.mem_cons_of_mem _ (List.mem_append_right _ h))
set_option maxRecDepth 20000 in
theorem ggX4_windows_X4_slideWindow : GoodIn wsX4_windows wsX4_slideWindow := goodIn_k _ [(wsX4_windows_r1, [12, 13, 0, 4, 1, 14, 15, 16, 17, 18, 19, 20, 21, 22, 23]), (wsX4_windows_r2, [0, 1, 2, 3, 4, 5, 6, 7, 8, 9, 10, 11, 12, 13, 14, 15, 16, 17, 18, 19, 20, 21, 22, 23]), (wsX4_windows_r3, [0, 1]), (wsX4_windows_r1, [7]), (wsX4_windows_r3, [2, 3, 4, 5, 6]), (wsX40, [0, 1, 2, 3, 4, 5, 6, 7, 8]), (wsX00, [0, 1]), (wsX10, [0, 1, 2, 3])] (gk_c mi_wsX4_windows_wsX4_windows_r1 (gk_c mi_wsX4_windows_wsX4_windows_r2 (gk_c mi_wsX4_windows_wsX4_windows_r3 (gk_c mi_wsX4_windows_wsX4_windows_r1 (gk_c mi_wsX4_windows_wsX4_windows_r3 (gk_c mi_wsX4_windows_wsX40 (gk_c mi_wsX4_windows_wsX00 (gk_c mi_wsX4_windows_wsX10 gk_n)))))))) rfl (by decide +kernel)
set_option maxRecDepth 20000 in
theorem gX4_windows_X4_slideWindow : GoodIn wsX4_windows (wsV RX4 237 RX4 yX4_slideWindow wsX4_slideWindow) := goodIn_app (goodIn_k _ [(wsX4_windows_r1, [9, 10, 11, 7])] (gk_c mi_wsX4_windows_wsX4_windows_r1 gk_n) rfl (by decide +kernel)) ggX4_windows_X4_slideWindow
set_option maxRecDepth 20000 in
theorem ggX4_windows_X4_kindOfMostWins : GoodIn wsX4_windows wsX4_kindOfMostWins := goodIn_k _ [(wsX4_windows_r3, [10]), (wsX4_windows_r1, [0, 1, 4, 3]), (wsX40, [0, 1, 2, 3, 4, 5, 6, 7, 8]), (wsX00, [0, 1])] (gk_c mi_wsX4_windows_wsX4_windows_r3 (gk_c mi_wsX4_windows_wsX4_windows_r1 (gk_c mi_wsX4_windows_wsX40 (gk_c mi_wsX4_windows_wsX00 gk_n)))) rfl (by decide +kernel)
set_option maxRecDepth 20000 in
theorem gX4_windows_X4_kindOfMostWins : GoodIn wsX4_windows (wsV RX4 240 RX4 yX4_kindOfMostWins wsX4_kindOfMostWins) := goodIn_app (goodIn_k _ [(wsX4_windows_r3, [7, 8, 9]), (wsX4_windows_r1, [7])] (gk_c mi_wsX4_windows_wsX4_windows_r3 (gk_c mi_wsX4_windows_wsX4_windows_r1 gk_n)) rfl (by decide +kernel)) ggX4_windows_X4_kindOfMostWins
def dt_cX4_windows_0 : List (Nat × Instr × Nat) := [(0, .iload 4, 2), (2, .ifCond .lt 9, 3), (5, .iload 4, 2), (7, .iconst 2, 1), (8, .if_icmp .le 5, 3), (11, .iconst (-1), 1), (12, .ireturn, 1), (13, .iload_n 1, 1), (14, .iconst 1, 1), (15, .if_icmp .lt 22, 3), (18, .iload_n 1, 1), (19, .aload_n 0, 1), (20, .getfield 12, 3), (23, .getfield 57, 3), (26, .if_icmp .gt 11, 3), (29, .iload_n 2, 1), (30, .iload_n 3, 1), (31, .invokestatic 186, 3), (34, .ifCond .ne 16, 3), (37, .iload 4, 2), (39, .iconst 1, 1), (40, .if_icmp .ne 8, 3), (43, .ldc 102, 2), (45, .goto 4, 3), (48, .iconst (-1), 1), (49, .ireturn, 1), (50, .aload_n 0, 1), (51, .iload_n 1, 1), (52, .iload_n 2, 1), (53, .iload_n 3, 1), (54, .invokevirtual 237, 3), (57, .istore 5, 2), (59, .iload 4, 2), (61, .ifCond .ne 6, 3), (64, .iload 5, 2), (66, .ireturn, 1), (67, .aload_n 0, 1), (68, .invokevirtual 240, 3), (71, .istore 6, 2), (73, .iload 6, 2), (75, .iconst (-1), 1), (76, .if_icmp .ne 16, 3), (79, .iload 4, 2), (81, .iconst 1, 1), (82, .if_icmp .ne 8, 3), (85, .ldc 102, 2), (87, .goto 4, 3), (90, .iconst 0, 1), (91, .ireturn, 1), (92, .iload 4, 2), (94, .iconst 1, 1), (95, .if_icmp .ne 16, 3), (98, .aload_n 0, 1), (99, .getfield 12, 3), (102, .getfield 110, 3), (105, .iload 6, 2), (107, .iaload, 1), (108, .goto 10, 3), (111, .aload_n 0, 1), (112, .getfield 42, 3)]
theorem da_cX4_windows_0 : dk_all cX4_windows dt_cX4_windows_0 = true := by decide +kernel
theorem dX4_windows_0 : decode cX4_windows 0 = .ok (.iload 4, 2) := dk_get _ da_cX4_windows_0 0 _ _ _ rfl
theorem dX4_windows_2 : decode cX4_windows 2 = .ok (.ifCond .lt 9, 3) := dk_get _ da_cX4_windows_0 1 _ _ _ rfl
theorem dX4_windows_5 : decode cX4_windows 5 = .ok (.iload 4, 2) := dk_get _ da_cX4_windows_0 2 _ _ _ rfl
theorem dX4_windows_7 : decode cX4_windows 7 = .ok (.iconst 2, 1) := dk_get _ da_cX4_windows_0 3 _ _ _ rfl
theorem dX4_windows_8 : decode cX4_windows 8 = .ok (.if_icmp .le 5, 3) := dk_get _ da_cX4_windows_0 4 _ _ _ rfl
theorem dX4_windows_11 : decode cX4_windows 11 = .ok (.iconst (-1), 1) := dk_get _ da_cX4_windows_0 5 _ _ _ rfl
theorem dX4_windows_12 : decode cX4_windows 12 = .ok (.ireturn, 1) := dk_get _ da_cX4_windows_0 6 _ _ _ rfl
theorem dX4_windows_13 : decode cX4_windows 13 = .ok (.iload_n 1, 1) := dk_get _ da_cX4_windows_0 7 _ _ _ rfl
theorem dX4_windows_14 : decode cX4_windows 14 = .ok (.iconst 1, 1) := dk_get _ da_cX4_windows_0 8 _ _ _ rfl
theorem dX4_windows_15 : decode cX4_windows 15 = .ok (.if_icmp .lt 22, 3) := dk_get _ da_cX4_windows_0 9 _ _ _ rfl
theorem dX4_windows_18 : decode cX4_windows 18 = .ok (.iload_n 1, 1) := dk_get _ da_cX4_windows_0 10 _ _ _ rfl
theorem dX4_windows_19 : decode cX4_windows 19 = .ok (.aload_n 0, 1) := dk_get _ da_cX4_windows_0 11 _ _ _ rfl
theorem dX4_windows_20 : decode cX4_windows 20 = .ok (.getfield 12, 3) := dk_get _ da_cX4_windows_0 12 _ _ _ rfl
theorem dX4_windows_23 : decode cX4_windows 23 = .ok (.getfield 57, 3) := dk_get _ da_cX4_windows_0 13 _ _ _ rfl
theorem dX4_windows_26 : decode cX4_windows 26 = .ok (.if_icmp .gt 11, 3) := dk_get _ da_cX4_windows_0 14 _ _ _ rfl
theorem dX4_windows_29 : decode cX4_windows 29 = .ok (.iload_n 2, 1) := dk_get _ da_cX4_windows_0 15 _ _ _ rfl
theorem dX4_windows_30 : decode cX4_windows 30 = .ok (.iload_n 3, 1) := dk_get _ da_cX4_windows_0 16 _ _ _ rfl
theorem dX4_windows_31 : decode cX4_windows 31 = .ok (.invokestatic 186, 3) := dk_get _ da_cX4_windows_0 17 _ _ _ rfl
theorem dX4_windows_34 : decode cX4_windows 34 = .ok (.ifCond .ne 16, 3) := dk_get _ da_cX4_windows_0 18 _ _ _ rfl
theorem dX4_windows_37 : decode cX4_windows 37 = .ok (.iload 4, 2) := dk_get _ da_cX4_windows_0 19 _ _ _ rfl
theorem dX4_windows_39 : decode cX4_windows 39 = .ok (.iconst 1, 1) := dk_get _ da_cX4_windows_0 20 _ _ _ rfl
theorem dX4_windows_40 : decode cX4_windows 40 = .ok (.if_icmp .ne 8, 3) := dk_get _ da_cX4_windows_0 21 _ _ _ rfl
theorem dX4_windows_43 : decode cX4_windows 43 = .ok (.ldc 102, 2) := dk_get _ da_cX4_windows_0 22 _ _ _ rfl
theorem dX4_windows_45 : decode cX4_windows 45 = .ok (.goto 4, 3) := dk_get _ da_cX4_windows_0 23 _ _ _ rfl
theorem dX4_windows_48 : decode cX4_windows 48 = .ok (.iconst (-1), 1) := dk_get _ da_cX4_windows_0 24 _ _ _ rfl
theorem dX4_windows_49 : decode cX4_windows 49 = .ok (.ireturn, 1) := dk_get _ da_cX4_windows_0 25 _ _ _ rfl
theorem dX4_windows_50 : decode cX4_windows 50 = .ok (.aload_n 0, 1) := dk_get _ da_cX4_windows_0 26 _ _ _ rfl
theorem dX4_windows_51 : decode cX4_windows 51 = .ok (.iload_n 1, 1) := dk_get _ da_cX4_windows_0 27 _ _ _ rfl
theorem dX4_windows_52 : decode cX4_windows 52 = .ok (.iload_n 2, 1) := dk_get _ da_cX4_windows_0 28 _ _ _ rfl
theorem dX4_windows_53 : decode cX4_windows 53 = .ok (.iload_n 3, 1) := dk_get _ da_cX4_windows_0 29 _ _ _ rfl
theorem dX4_windows_54 : decode cX4_windows 54 = .ok (.invokevirtual 237, 3) := dk_get _ da_cX4_windows_0 30 _ _ _ rfl
theorem dX4_windows_57 : decode cX4_windows 57 = .ok (.istore 5, 2) := dk_get _ da_cX4_windows_0 31 _ _ _ rfl
theorem dX4_windows_59 : decode cX4_windows 59 = .ok (.iload 4, 2) := dk_get _ da_cX4_windows_0 32 _ _ _ rfl
theorem dX4_windows_61 : decode cX4_windows 61 = .ok (.ifCond .ne 6, 3) := dk_get _ da_cX4_windows_0 33 _ _ _ rfl
theorem dX4_windows_64 : decode cX4_windows 64 = .ok (.iload 5, 2) := dk_get _ da_cX4_windows_0 34 _ _ _ rfl
theorem dX4_windows_66 : decode cX4_windows 66 = .ok (.ireturn, 1) := dk_get _ da_cX4_windows_0 35 _ _ _ rfl
theorem dX4_windows_67 : decode cX4_windows 67 = .ok (.aload_n 0, 1) := dk_get _ da_cX4_windows_0 36 _ _ _ rfl
theorem dX4_windows_68 : decode cX4_windows 68 = .ok (.invokevirtual 240, 3) := dk_get _ da_cX4_windows_0 37 _ _ _ rfl
theorem dX4_windows_71 : decode cX4_windows 71 = .ok (.istore 6, 2) := dk_get _ da_cX4_windows_0 38 _ _ _ rfl
theorem dX4_windows_73 : decode cX4_windows 73 = .ok (.iload 6, 2) := dk_get _ da_cX4_windows_0 39 _ _ _ rfl
theorem dX4_windows_75 : decode cX4_windows 75 = .ok (.iconst (-1), 1) := dk_get _ da_cX4_windows_0 40 _ _ _ rfl
theorem dX4_windows_76 : decode cX4_windows 76 = .ok (.if_icmp .ne 16, 3) := dk_get _ da_cX4_windows_0 41 _ _ _ rfl
theorem dX4_windows_79 : decode cX4_windows 79 = .ok (.iload 4, 2) := dk_get _ da_cX4_windows_0 42 _ _ _ rfl
theorem dX4_windows_81 : decode cX4_windows 81 = .ok (.iconst 1, 1) := dk_get _ da_cX4_windows_0 43 _ _ _ rfl
theorem dX4_windows_82 : decode cX4_windows 82 = .ok (.if_icmp .ne 8, 3) := dk_get _ da_cX4_windows_0 44 _ _ _ rfl
theorem dX4_windows_85 : decode cX4_windows 85 = .ok (.ldc 102, 2) := dk_get _ da_cX4_windows_0 45 _ _ _ rfl
theorem dX4_windows_87 : decode cX4_windows 87 = .ok (.goto 4, 3) := dk_get _ da_cX4_windows_0 46 _ _ _ rfl
theorem dX4_windows_90 : decode cX4_windows 90 = .ok (.iconst 0, 1) := dk_get _ da_cX4_windows_0 47 _ _ _ rfl
theorem dX4_windows_91 : decode cX4_windows 91 = .ok (.ireturn, 1) := dk_get _ da_cX4_windows_0 48 _ _ _ rfl
theorem dX4_windows_92 : decode cX4_windows 92 = .ok (.iload 4, 2) := dk_get _ da_cX4_windows_0 49 _ _ _ rfl
theorem dX4_windows_94 : decode cX4_windows 94 = .ok (.iconst 1, 1) := dk_get _ da_cX4_windows_0 50 _ _ _ rfl
theorem dX4_windows_95 : decode cX4_windows 95 = .ok (.if_icmp .ne 16, 3) := dk_get _ da_cX4_windows_0 51 _ _ _ rfl
theorem dX4_windows_98 : decode cX4_windows 98 = .ok (.aload_n 0, 1) := dk_get _ da_cX4_windows_0 52 _ _ _ rfl
theorem dX4_windows_99 : decode cX4_windows 99 = .ok (.getfield 12, 3) := dk_get _ da_cX4_windows_0 53 _ _ _ rfl
theorem dX4_windows_102 : decode cX4_windows 102 = .ok (.getfield 110, 3) := dk_get _ da_cX4_windows_0 54 _ _ _ rfl
theorem dX4_windows_105 : decode cX4_windows 105 = .ok (.iload 6, 2) := dk_get _ da_cX4_windows_0 55 _ _ _ rfl
theorem dX4_windows_107 : decode cX4_windows 107 = .ok (.iaload, 1) := dk_get _ da_cX4_windows_0 56 _ _ _ rfl
theorem dX4_windows_108 : decode cX4_windows 108 = .ok (.goto 10, 3) := dk_get _ da_cX4_windows_0 57 _ _ _ rfl
theorem dX4_windows_111 : decode cX4_windows 111 = .ok (.aload_n 0, 1) := dk_get _ da_cX4_windows_0 58 _ _ _ rfl
theorem dX4_windows_112 : decode cX4_windows 112 = .ok (.getfield 42, 3) := dk_get _ da_cX4_windows_0 59 _ _ _ rfl
def dt_cX4_windows_1 : List (Nat × Instr × Nat) := [(115, .iload 6, 2), (117, .iaload, 1), (118, .ireturn, 1)]
theorem da_cX4_windows_1 : dk_all cX4_windows dt_cX4_windows_1 = true := by decide +kernel
theorem dX4_windows_115 : decode cX4_windows 115 = .ok (.iload 6, 2) := dk_get _ da_cX4_windows_1 0 _ _ _ rfl
theorem dX4_windows_117 : decode cX4_windows 117 = .ok (.iaload, 1) := dk_get _ da_cX4_windows_1 1 _ _ _ rfl
theorem dX4_windows_118 : decode cX4_windows 118 = .ok (.ireturn, 1) := dk_get _ da_cX4_windows_1 2 _ _ _ rfl
theorem mi_wsX4_needs_wsX4_needs_r1 : ∀ w ∈ wsX4_needs_r1, w ∈ wsX4_needs := fun _ h => (List.mem_cons_of_mem _ (List.mem_append_left _ (List.mem_append_left _ (List.mem_append_left _ h))))
set_option maxRecDepth 20000 in
theorem ggX4_needs_X4_isValue : GoodIn wsX4_needs wsX4_isValue := goodIn_k _ [(wsX4_needs_r1, [8])] (gk_c mi_wsX4_needs_wsX4_needs_r1 gk_n) rfl (by decide +kernel)
set_option maxRecDepth 20000 in
theorem gX4_needs_X4_isValue : GoodIn wsX4_needs (va_wsS RX4 68 yX4_isValue wsX4_isValue) := goodIn_app (goodIn_k _ [(wsX4_needs_r1, [5, 6, 7])] (gk_c mi_wsX4_needs_wsX4_needs_r1 gk_n) rfl (by decide +kernel)) ggX4_needs_X4_isValue
theorem mi_wsX4_needs_wsX00 : ∀ w ∈ wsX00, w ∈ wsX4_needs := fun _ h => (List.mem_cons_of_mem _ (List.mem_append_right _ h))
set_option maxRecDepth 20000 in
theorem ggX4_needs_X0_hasRange : GoodIn wsX4_needs wsX0_hasRange := goodIn_k _ [(wsX4_needs_r1, [13, 14]), (wsX00, [0, 1])] (gk_c mi_wsX4_needs_wsX4_needs_r1 (gk_c mi_wsX4_needs_wsX00 gk_n)) rfl (by decide +kernel)
set_option maxRecDepth 20000 in
theorem gX4_needs_X0_hasRange : GoodIn wsX4_needs (wsV RX4 79 RX0 yX0_hasRange wsX0_hasRange) := goodIn_app (goodIn_k _ [(wsX4_needs_r1, [9, 10, 11, 12])] (gk_c mi_wsX4_needs_wsX4_needs_r1 gk_n) rfl (by decide +kernel)) ggX4_needs_X0_hasRange
set_option maxRecDepth 20000 in
theorem ggX4_needs_X4_isShare : GoodIn wsX4_needs wsX4_isShare := goodIn_k _ [(wsX4_needs_r1, [17])] (gk_c mi_wsX4_needs_wsX4_needs_r1 gk_n) rfl (by decide +kernel)
set_option maxRecDepth 20000 in
theorem gX4_needs_X4_isShare : GoodIn wsX4_needs (va_wsS RX4 186 yX4_isShare wsX4_isShare) := goodIn_app (goodIn_k _ [(wsX4_needs_r1, [15, 16, 7])] (gk_c mi_wsX4_needs_wsX4_needs_r1 gk_n) rfl (by decide +kernel)) ggX4_needs_X4_isShare
set_option maxRecDepth 20000 in
theorem ggX4_needs_X4_mostWithoutHeavy : GoodIn wsX4_needs wsX4_mostWithoutHeavy := goodIn_k _ [(wsX4_needs_r1, [20])] (gk_c mi_wsX4_needs_wsX4_needs_r1 gk_n) rfl (by decide +kernel)
set_option maxRecDepth 20000 in
theorem gX4_needs_X4_mostWithoutHeavy : GoodIn wsX4_needs (va_wsS RX4 243 yX4_mostWithoutHeavy wsX4_mostWithoutHeavy) := goodIn_app (goodIn_k _ [(wsX4_needs_r1, [18, 19, 7])] (gk_c mi_wsX4_needs_wsX4_needs_r1 gk_n) rfl (by decide +kernel)) ggX4_needs_X4_mostWithoutHeavy
theorem mi_wsX4_needs_wsX4_needs_r2 : ∀ w ∈ wsX4_needs_r2, w ∈ wsX4_needs := fun _ h => (List.mem_cons_of_mem _ (List.mem_append_left _ (List.mem_append_left _ (List.mem_append_right _ h))))
set_option maxRecDepth 20000 in
theorem ggX4_needs_X0_oftenIn : GoodIn wsX4_needs wsX0_oftenIn := goodIn_k _ [(wsX4_needs_r2, [0, 1]), (wsX00, [0, 1])] (gk_c mi_wsX4_needs_wsX4_needs_r2 (gk_c mi_wsX4_needs_wsX00 gk_n)) rfl (by decide +kernel)
set_option maxRecDepth 20000 in
theorem gX4_needs_X0_oftenIn : GoodIn wsX4_needs (wsV RX4 113 RX0 yX0_oftenIn wsX0_oftenIn) := goodIn_app (goodIn_k _ [(wsX4_needs_r1, [21, 22, 23, 12])] (gk_c mi_wsX4_needs_wsX4_needs_r1 gk_n) rfl (by decide +kernel)) ggX4_needs_X0_oftenIn
def dt_cX4_needs_0 : List (Nat × Instr × Nat) := [(0, .iload_n 1, 1), (1, .invokestatic 68, 3), (4, .ifCond .eq 25, 3), (7, .aload_n 0, 1), (8, .getfield 12, 3), (11, .iload_n 2, 1), (12, .iload_n 3, 1), (13, .invokevirtual 79, 3), (16, .ifCond .eq 13, 3), (19, .iload 4, 2), (21, .iload 5, 2), (23, .invokestatic 186, 3), (26, .ifCond .ne 5, 3), (29, .iconst (-1), 1), (30, .ireturn, 1), (31, .iload_n 3, 1), (32, .iload_n 2, 1), (33, .isub, 1), (34, .iload 4, 2), (36, .iload 5, 2), (38, .invokestatic 243, 3), (41, .iconst 1, 1), (42, .iadd, 1), (43, .istore 6, 2), (45, .iload 6, 2), (47, .iload_n 3, 1), (48, .iload_n 2, 1), (49, .isub, 1), (50, .if_icmp .le 6, 3), (53, .bipush (-2), 2), (55, .ireturn, 1), (56, .iconst 0, 1), (57, .iload 6, 2), (59, .aload_n 0, 1), (60, .getfield 12, 3), (63, .iload_n 1, 1), (64, .iload_n 2, 1), (65, .iload_n 3, 1), (66, .invokevirtual 113, 3), (69, .isub, 1), (70, .invokestatic 96, 3), (73, .ireturn, 1)]
theorem da_cX4_needs_0 : dk_all cX4_needs dt_cX4_needs_0 = true := by decide +kernel
theorem dX4_needs_0 : decode cX4_needs 0 = .ok (.iload_n 1, 1) := dk_get _ da_cX4_needs_0 0 _ _ _ rfl
theorem dX4_needs_1 : decode cX4_needs 1 = .ok (.invokestatic 68, 3) := dk_get _ da_cX4_needs_0 1 _ _ _ rfl
theorem dX4_needs_4 : decode cX4_needs 4 = .ok (.ifCond .eq 25, 3) := dk_get _ da_cX4_needs_0 2 _ _ _ rfl
theorem dX4_needs_7 : decode cX4_needs 7 = .ok (.aload_n 0, 1) := dk_get _ da_cX4_needs_0 3 _ _ _ rfl
theorem dX4_needs_8 : decode cX4_needs 8 = .ok (.getfield 12, 3) := dk_get _ da_cX4_needs_0 4 _ _ _ rfl
theorem dX4_needs_11 : decode cX4_needs 11 = .ok (.iload_n 2, 1) := dk_get _ da_cX4_needs_0 5 _ _ _ rfl
theorem dX4_needs_12 : decode cX4_needs 12 = .ok (.iload_n 3, 1) := dk_get _ da_cX4_needs_0 6 _ _ _ rfl
theorem dX4_needs_13 : decode cX4_needs 13 = .ok (.invokevirtual 79, 3) := dk_get _ da_cX4_needs_0 7 _ _ _ rfl
theorem dX4_needs_16 : decode cX4_needs 16 = .ok (.ifCond .eq 13, 3) := dk_get _ da_cX4_needs_0 8 _ _ _ rfl
theorem dX4_needs_19 : decode cX4_needs 19 = .ok (.iload 4, 2) := dk_get _ da_cX4_needs_0 9 _ _ _ rfl
theorem dX4_needs_21 : decode cX4_needs 21 = .ok (.iload 5, 2) := dk_get _ da_cX4_needs_0 10 _ _ _ rfl
theorem dX4_needs_23 : decode cX4_needs 23 = .ok (.invokestatic 186, 3) := dk_get _ da_cX4_needs_0 11 _ _ _ rfl
theorem dX4_needs_26 : decode cX4_needs 26 = .ok (.ifCond .ne 5, 3) := dk_get _ da_cX4_needs_0 12 _ _ _ rfl
theorem dX4_needs_29 : decode cX4_needs 29 = .ok (.iconst (-1), 1) := dk_get _ da_cX4_needs_0 13 _ _ _ rfl
theorem dX4_needs_30 : decode cX4_needs 30 = .ok (.ireturn, 1) := dk_get _ da_cX4_needs_0 14 _ _ _ rfl
theorem dX4_needs_31 : decode cX4_needs 31 = .ok (.iload_n 3, 1) := dk_get _ da_cX4_needs_0 15 _ _ _ rfl
theorem dX4_needs_32 : decode cX4_needs 32 = .ok (.iload_n 2, 1) := dk_get _ da_cX4_needs_0 16 _ _ _ rfl
theorem dX4_needs_33 : decode cX4_needs 33 = .ok (.isub, 1) := dk_get _ da_cX4_needs_0 17 _ _ _ rfl
theorem dX4_needs_34 : decode cX4_needs 34 = .ok (.iload 4, 2) := dk_get _ da_cX4_needs_0 18 _ _ _ rfl
theorem dX4_needs_36 : decode cX4_needs 36 = .ok (.iload 5, 2) := dk_get _ da_cX4_needs_0 19 _ _ _ rfl
theorem dX4_needs_38 : decode cX4_needs 38 = .ok (.invokestatic 243, 3) := dk_get _ da_cX4_needs_0 20 _ _ _ rfl
theorem dX4_needs_41 : decode cX4_needs 41 = .ok (.iconst 1, 1) := dk_get _ da_cX4_needs_0 21 _ _ _ rfl
theorem dX4_needs_42 : decode cX4_needs 42 = .ok (.iadd, 1) := dk_get _ da_cX4_needs_0 22 _ _ _ rfl
theorem dX4_needs_43 : decode cX4_needs 43 = .ok (.istore 6, 2) := dk_get _ da_cX4_needs_0 23 _ _ _ rfl
theorem dX4_needs_45 : decode cX4_needs 45 = .ok (.iload 6, 2) := dk_get _ da_cX4_needs_0 24 _ _ _ rfl
theorem dX4_needs_47 : decode cX4_needs 47 = .ok (.iload_n 3, 1) := dk_get _ da_cX4_needs_0 25 _ _ _ rfl
theorem dX4_needs_48 : decode cX4_needs 48 = .ok (.iload_n 2, 1) := dk_get _ da_cX4_needs_0 26 _ _ _ rfl
theorem dX4_needs_49 : decode cX4_needs 49 = .ok (.isub, 1) := dk_get _ da_cX4_needs_0 27 _ _ _ rfl
theorem dX4_needs_50 : decode cX4_needs 50 = .ok (.if_icmp .le 6, 3) := dk_get _ da_cX4_needs_0 28 _ _ _ rfl
theorem dX4_needs_53 : decode cX4_needs 53 = .ok (.bipush (-2), 2) := dk_get _ da_cX4_needs_0 29 _ _ _ rfl
theorem dX4_needs_55 : decode cX4_needs 55 = .ok (.ireturn, 1) := dk_get _ da_cX4_needs_0 30 _ _ _ rfl
theorem dX4_needs_56 : decode cX4_needs 56 = .ok (.iconst 0, 1) := dk_get _ da_cX4_needs_0 31 _ _ _ rfl
theorem dX4_needs_57 : decode cX4_needs 57 = .ok (.iload 6, 2) := dk_get _ da_cX4_needs_0 32 _ _ _ rfl
theorem dX4_needs_59 : decode cX4_needs 59 = .ok (.aload_n 0, 1) := dk_get _ da_cX4_needs_0 33 _ _ _ rfl
theorem dX4_needs_60 : decode cX4_needs 60 = .ok (.getfield 12, 3) := dk_get _ da_cX4_needs_0 34 _ _ _ rfl
theorem dX4_needs_63 : decode cX4_needs 63 = .ok (.iload_n 1, 1) := dk_get _ da_cX4_needs_0 35 _ _ _ rfl
theorem dX4_needs_64 : decode cX4_needs 64 = .ok (.iload_n 2, 1) := dk_get _ da_cX4_needs_0 36 _ _ _ rfl
theorem dX4_needs_65 : decode cX4_needs 65 = .ok (.iload_n 3, 1) := dk_get _ da_cX4_needs_0 37 _ _ _ rfl
theorem dX4_needs_66 : decode cX4_needs 66 = .ok (.invokevirtual 113, 3) := dk_get _ da_cX4_needs_0 38 _ _ _ rfl
theorem dX4_needs_69 : decode cX4_needs 69 = .ok (.isub, 1) := dk_get _ da_cX4_needs_0 39 _ _ _ rfl
theorem dX4_needs_70 : decode cX4_needs 70 = .ok (.invokestatic 96, 3) := dk_get _ da_cX4_needs_0 40 _ _ _ rfl
theorem dX4_needs_73 : decode cX4_needs 73 = .ok (.ireturn, 1) := dk_get _ da_cX4_needs_0 41 _ _ _ rfl
theorem mi_wsX4_spares_wsX4_spares_r1 : ∀ w ∈ wsX4_spares_r1, w ∈ wsX4_spares := fun _ h => (List.mem_cons_of_mem _ (List.mem_append_left _ (List.mem_append_left _ (List.mem_append_left _ h))))
set_option maxRecDepth 20000 in
theorem ggX4_spares_X4_isValue : GoodIn wsX4_spares wsX4_isValue := goodIn_k _ [(wsX4_spares_r1, [8])] (gk_c mi_wsX4_spares_wsX4_spares_r1 gk_n) rfl (by decide +kernel)
set_option maxRecDepth 20000 in
theorem gX4_spares_X4_isValue : GoodIn wsX4_spares (va_wsS RX4 68 yX4_isValue wsX4_isValue) := goodIn_app (goodIn_k _ [(wsX4_spares_r1, [5, 6, 7])] (gk_c mi_wsX4_spares_wsX4_spares_r1 gk_n) rfl (by decide +kernel)) ggX4_spares_X4_isValue
theorem mi_wsX4_spares_wsX00 : ∀ w ∈ wsX00, w ∈ wsX4_spares := fun _ h => (List.mem_cons_of_mem _ (List.mem_append_right _ h))
set_option maxRecDepth 20000 in
theorem ggX4_spares_X0_hasRange : GoodIn wsX4_spares wsX0_hasRange := goodIn_k _ [(wsX4_spares_r1, [13, 14]), (wsX00, [0, 1])] (gk_c mi_wsX4_spares_wsX4_spares_r1 (gk_c mi_wsX4_spares_wsX00 gk_n)) rfl (by decide +kernel)
set_option maxRecDepth 20000 in
theorem gX4_spares_X0_hasRange : GoodIn wsX4_spares (wsV RX4 79 RX0 yX0_hasRange wsX0_hasRange) := goodIn_app (goodIn_k _ [(wsX4_spares_r1, [9, 10, 11, 12])] (gk_c mi_wsX4_spares_wsX4_spares_r1 gk_n) rfl (by decide +kernel)) ggX4_spares_X0_hasRange
set_option maxRecDepth 20000 in
theorem ggX4_spares_X4_isShare : GoodIn wsX4_spares wsX4_isShare := goodIn_k _ [(wsX4_spares_r1, [17])] (gk_c mi_wsX4_spares_wsX4_spares_r1 gk_n) rfl (by decide +kernel)
set_option maxRecDepth 20000 in
theorem gX4_spares_X4_isShare : GoodIn wsX4_spares (va_wsS RX4 186 yX4_isShare wsX4_isShare) := goodIn_app (goodIn_k _ [(wsX4_spares_r1, [15, 16, 7])] (gk_c mi_wsX4_spares_wsX4_spares_r1 gk_n) rfl (by decide +kernel)) ggX4_spares_X4_isShare
set_option maxRecDepth 20000 in
theorem ggX4_spares_X0_oftenIn : GoodIn wsX4_spares wsX0_oftenIn := goodIn_k _ [(wsX4_spares_r1, [21, 22]), (wsX00, [0, 1])] (gk_c mi_wsX4_spares_wsX4_spares_r1 (gk_c mi_wsX4_spares_wsX00 gk_n)) rfl (by decide +kernel)
set_option maxRecDepth 20000 in
theorem gX4_spares_X0_oftenIn : GoodIn wsX4_spares (wsV RX4 113 RX0 yX0_oftenIn wsX0_oftenIn) := goodIn_app (goodIn_k _ [(wsX4_spares_r1, [18, 19, 20, 12])] (gk_c mi_wsX4_spares_wsX4_spares_r1 gk_n) rfl (by decide +kernel)) ggX4_spares_X0_oftenIn
theorem mi_wsX4_spares_wsX4_spares_r2 : ∀ w ∈ wsX4_spares_r2, w ∈ wsX4_spares := fun _ h => (List.mem_cons_of_mem _ (List.mem_append_left _ (List.mem_append_left _ (List.mem_append_right _ h))))
set_option maxRecDepth 20000 in
theorem ggX4_spares_X4_mostWithoutHeavy : GoodIn wsX4_spares wsX4_mostWithoutHeavy := goodIn_k _ [(wsX4_spares_r2, [1])] (gk_c mi_wsX4_spares_wsX4_spares_r2 gk_n) rfl (by decide +kernel)
set_option maxRecDepth 20000 in
theorem gX4_spares_X4_mostWithoutHeavy : GoodIn wsX4_spares (va_wsS RX4 243 yX4_mostWithoutHeavy wsX4_mostWithoutHeavy) := goodIn_app (goodIn_k _ [(wsX4_spares_r1, [23]), (wsX4_spares_r2, [0]), (wsX4_spares_r1, [7])] (gk_c mi_wsX4_spares_wsX4_spares_r1 (gk_c mi_wsX4_spares_wsX4_spares_r2 (gk_c mi_wsX4_spares_wsX4_spares_r1 gk_n))) rfl (by decide +kernel)) ggX4_spares_X4_mostWithoutHeavy
def dt_cX4_spares_0 : List (Nat × Instr × Nat) := [(0, .iload_n 1, 1), (1, .invokestatic 68, 3), (4, .ifCond .eq 25, 3), (7, .aload_n 0, 1), (8, .getfield 12, 3), (11, .iload_n 2, 1), (12, .iload_n 3, 1), (13, .invokevirtual 79, 3), (16, .ifCond .eq 13, 3), (19, .iload 4, 2), (21, .iload 5, 2), (23, .invokestatic 186, 3), (26, .ifCond .ne 5, 3), (29, .iconst (-1), 1), (30, .ireturn, 1), (31, .iconst 0, 1), (32, .aload_n 0, 1), (33, .getfield 12, 3), (36, .iload_n 1, 1), (37, .iload_n 2, 1), (38, .iload_n 3, 1), (39, .invokevirtual 113, 3), (42, .iload_n 3, 1), (43, .iload_n 2, 1), (44, .isub, 1), (45, .iload 4, 2), (47, .iload 5, 2), (49, .invokestatic 243, 3), (52, .isub, 1), (53, .invokestatic 96, 3), (56, .ireturn, 1)]
theorem da_cX4_spares_0 : dk_all cX4_spares dt_cX4_spares_0 = true := by decide +kernel
theorem dX4_spares_0 : decode cX4_spares 0 = .ok (.iload_n 1, 1) := dk_get _ da_cX4_spares_0 0 _ _ _ rfl
theorem dX4_spares_1 : decode cX4_spares 1 = .ok (.invokestatic 68, 3) := dk_get _ da_cX4_spares_0 1 _ _ _ rfl
theorem dX4_spares_4 : decode cX4_spares 4 = .ok (.ifCond .eq 25, 3) := dk_get _ da_cX4_spares_0 2 _ _ _ rfl
theorem dX4_spares_7 : decode cX4_spares 7 = .ok (.aload_n 0, 1) := dk_get _ da_cX4_spares_0 3 _ _ _ rfl
theorem dX4_spares_8 : decode cX4_spares 8 = .ok (.getfield 12, 3) := dk_get _ da_cX4_spares_0 4 _ _ _ rfl
theorem dX4_spares_11 : decode cX4_spares 11 = .ok (.iload_n 2, 1) := dk_get _ da_cX4_spares_0 5 _ _ _ rfl
theorem dX4_spares_12 : decode cX4_spares 12 = .ok (.iload_n 3, 1) := dk_get _ da_cX4_spares_0 6 _ _ _ rfl
theorem dX4_spares_13 : decode cX4_spares 13 = .ok (.invokevirtual 79, 3) := dk_get _ da_cX4_spares_0 7 _ _ _ rfl
theorem dX4_spares_16 : decode cX4_spares 16 = .ok (.ifCond .eq 13, 3) := dk_get _ da_cX4_spares_0 8 _ _ _ rfl
theorem dX4_spares_19 : decode cX4_spares 19 = .ok (.iload 4, 2) := dk_get _ da_cX4_spares_0 9 _ _ _ rfl
theorem dX4_spares_21 : decode cX4_spares 21 = .ok (.iload 5, 2) := dk_get _ da_cX4_spares_0 10 _ _ _ rfl
theorem dX4_spares_23 : decode cX4_spares 23 = .ok (.invokestatic 186, 3) := dk_get _ da_cX4_spares_0 11 _ _ _ rfl
theorem dX4_spares_26 : decode cX4_spares 26 = .ok (.ifCond .ne 5, 3) := dk_get _ da_cX4_spares_0 12 _ _ _ rfl
theorem dX4_spares_29 : decode cX4_spares 29 = .ok (.iconst (-1), 1) := dk_get _ da_cX4_spares_0 13 _ _ _ rfl
theorem dX4_spares_30 : decode cX4_spares 30 = .ok (.ireturn, 1) := dk_get _ da_cX4_spares_0 14 _ _ _ rfl
theorem dX4_spares_31 : decode cX4_spares 31 = .ok (.iconst 0, 1) := dk_get _ da_cX4_spares_0 15 _ _ _ rfl
theorem dX4_spares_32 : decode cX4_spares 32 = .ok (.aload_n 0, 1) := dk_get _ da_cX4_spares_0 16 _ _ _ rfl
theorem dX4_spares_33 : decode cX4_spares 33 = .ok (.getfield 12, 3) := dk_get _ da_cX4_spares_0 17 _ _ _ rfl
theorem dX4_spares_36 : decode cX4_spares 36 = .ok (.iload_n 1, 1) := dk_get _ da_cX4_spares_0 18 _ _ _ rfl
theorem dX4_spares_37 : decode cX4_spares 37 = .ok (.iload_n 2, 1) := dk_get _ da_cX4_spares_0 19 _ _ _ rfl
theorem dX4_spares_38 : decode cX4_spares 38 = .ok (.iload_n 3, 1) := dk_get _ da_cX4_spares_0 20 _ _ _ rfl
theorem dX4_spares_39 : decode cX4_spares 39 = .ok (.invokevirtual 113, 3) := dk_get _ da_cX4_spares_0 21 _ _ _ rfl
theorem dX4_spares_42 : decode cX4_spares 42 = .ok (.iload_n 3, 1) := dk_get _ da_cX4_spares_0 22 _ _ _ rfl
theorem dX4_spares_43 : decode cX4_spares 43 = .ok (.iload_n 2, 1) := dk_get _ da_cX4_spares_0 23 _ _ _ rfl
theorem dX4_spares_44 : decode cX4_spares 44 = .ok (.isub, 1) := dk_get _ da_cX4_spares_0 24 _ _ _ rfl
theorem dX4_spares_45 : decode cX4_spares 45 = .ok (.iload 4, 2) := dk_get _ da_cX4_spares_0 25 _ _ _ rfl
theorem dX4_spares_47 : decode cX4_spares 47 = .ok (.iload 5, 2) := dk_get _ da_cX4_spares_0 26 _ _ _ rfl
theorem dX4_spares_49 : decode cX4_spares 49 = .ok (.invokestatic 243, 3) := dk_get _ da_cX4_spares_0 27 _ _ _ rfl
theorem dX4_spares_52 : decode cX4_spares 52 = .ok (.isub, 1) := dk_get _ da_cX4_spares_0 28 _ _ _ rfl
theorem dX4_spares_53 : decode cX4_spares 53 = .ok (.invokestatic 96, 3) := dk_get _ da_cX4_spares_0 29 _ _ _ rfl
theorem dX4_spares_56 : decode cX4_spares 56 = .ok (.ireturn, 1) := dk_get _ da_cX4_spares_0 30 _ _ _ rfl
theorem mi_wsX4_would_wsX4_would_r1 : ∀ w ∈ wsX4_would_r1, w ∈ wsX4_would := fun _ h => (List.mem_cons_of_mem _ (List.mem_append_left _ (List.mem_append_left _ (List.mem_append_left _ h))))
theorem mi_wsX4_would_wsX00 : ∀ w ∈ wsX00, w ∈ wsX4_would := fun _ h => (List.mem_cons_of_mem _ (List.mem_append_right _ h))
set_option maxRecDepth 20000 in
theorem ggX4_would_X0_hasPlace : GoodIn wsX4_would wsX0_hasPlace := goodIn_k _ [(wsX4_would_r1, [7, 8]), (wsX00, [0, 1])] (gk_c mi_wsX4_would_wsX4_would_r1 (gk_c mi_wsX4_would_wsX00 gk_n)) rfl (by decide +kernel)
set_option maxRecDepth 20000 in
theorem gX4_would_X0_hasPlace : GoodIn wsX4_would (wsV RX4 64 RX0 yX0_hasPlace wsX0_hasPlace) := goodIn_app (goodIn_k _ [(wsX4_would_r1, [3, 4, 5, 6])] (gk_c mi_wsX4_would_wsX4_would_r1 gk_n) rfl (by decide +kernel)) ggX4_would_X0_hasPlace
set_option maxRecDepth 20000 in
theorem ggX4_would_X4_isValue : GoodIn wsX4_would wsX4_isValue := goodIn_k _ [(wsX4_would_r1, [12])] (gk_c mi_wsX4_would_wsX4_would_r1 gk_n) rfl (by decide +kernel)
set_option maxRecDepth 20000 in
theorem gX4_would_X4_isValue : GoodIn wsX4_would (va_wsS RX4 68 yX4_isValue wsX4_isValue) := goodIn_app (goodIn_k _ [(wsX4_would_r1, [9, 10, 11])] (gk_c mi_wsX4_would_wsX4_would_r1 gk_n) rfl (by decide +kernel)) ggX4_would_X4_isValue
set_option maxRecDepth 20000 in
theorem ggX4_would_X0_hasRange : GoodIn wsX4_would wsX0_hasRange := goodIn_k _ [(wsX4_would_r1, [16, 8]), (wsX00, [0, 1])] (gk_c mi_wsX4_would_wsX4_would_r1 (gk_c mi_wsX4_would_wsX00 gk_n)) rfl (by decide +kernel)
set_option maxRecDepth 20000 in
theorem gX4_would_X0_hasRange : GoodIn wsX4_would (wsV RX4 79 RX0 yX0_hasRange wsX0_hasRange) := goodIn_app (goodIn_k _ [(wsX4_would_r1, [13, 14, 15, 6])] (gk_c mi_wsX4_would_wsX4_would_r1 gk_n) rfl (by decide +kernel)) ggX4_would_X0_hasRange
theorem mi_wsX4_would_wsX4_would_r2 : ∀ w ∈ wsX4_would_r2, w ∈ wsX4_would := fun _ h => (List.mem_cons_of_mem _ (List.mem_append_left _ (List.mem_append_left _ (List.mem_append_right _ h))))
set_option maxRecDepth 20000 in
theorem ggX4_would_X0_leader : GoodIn wsX4_would wsX0_leader := goodIn_k _ [(wsX4_would_r1, [20, 21, 22, 23]), (wsX4_would_r2, [0, 1]), (wsX4_would_r1, [6]), (wsX4_would_r2, [2, 3]), (wsX4_would_r1, [11]), (wsX4_would_r2, [4]), (wsX00, [0, 1])] (gk_c mi_wsX4_would_wsX4_would_r1 (gk_c mi_wsX4_would_wsX4_would_r2 (gk_c mi_wsX4_would_wsX4_would_r1 (gk_c mi_wsX4_would_wsX4_would_r2 (gk_c mi_wsX4_would_wsX4_would_r1 (gk_c mi_wsX4_would_wsX4_would_r2 (gk_c mi_wsX4_would_wsX00 gk_n))))))) rfl (by decide +kernel)
set_option maxRecDepth 20000 in
theorem gX4_would_X0_leader : GoodIn wsX4_would (wsV RX4 207 RX0 yX0_leader wsX0_leader) := goodIn_app (goodIn_k _ [(wsX4_would_r1, [17, 18, 19, 6])] (gk_c mi_wsX4_would_wsX4_would_r1 gk_n) rfl (by decide +kernel)) ggX4_would_X0_leader
def dt_cX4_would_0 : List (Nat × Instr × Nat) := [(0, .aload_n 0, 1), (1, .getfield 12, 3), (4, .iload_n 1, 1), (5, .invokevirtual 64, 3), (8, .ifCond .eq 23, 3), (11, .iload_n 2, 1), (12, .invokestatic 68, 3), (15, .ifCond .eq 16, 3), (18, .aload_n 0, 1), (19, .getfield 12, 3), (22, .iload_n 3, 1), (23, .iload 4, 2), (25, .invokevirtual 79, 3), (28, .ifCond .ne 6, 3), (31, .ldc 102, 2), (33, .ireturn, 1), (34, .aload_n 0, 1), (35, .getfield 12, 3), (38, .getfield 110, 3), (41, .iload_n 1, 1), (42, .iaload, 1), (43, .istore 5, 2), (45, .aload_n 0, 1), (46, .getfield 12, 3), (49, .getfield 110, 3), (52, .iload_n 1, 1), (53, .iload_n 2, 1), (54, .iastore, 1), (55, .aload_n 0, 1), (56, .getfield 12, 3), (59, .iload_n 3, 1), (60, .iload 4, 2), (62, .invokevirtual 207, 3), (65, .istore 6, 2), (67, .aload_n 0, 1), (68, .getfield 12, 3), (71, .getfield 110, 3), (74, .iload_n 1, 1), (75, .iload 5, 2), (77, .iastore, 1), (78, .iload 6, 2), (80, .ireturn, 1)]
theorem da_cX4_would_0 : dk_all cX4_would dt_cX4_would_0 = true := by decide +kernel
theorem dX4_would_0 : decode cX4_would 0 = .ok (.aload_n 0, 1) := dk_get _ da_cX4_would_0 0 _ _ _ rfl
theorem dX4_would_1 : decode cX4_would 1 = .ok (.getfield 12, 3) := dk_get _ da_cX4_would_0 1 _ _ _ rfl
theorem dX4_would_4 : decode cX4_would 4 = .ok (.iload_n 1, 1) := dk_get _ da_cX4_would_0 2 _ _ _ rfl
theorem dX4_would_5 : decode cX4_would 5 = .ok (.invokevirtual 64, 3) := dk_get _ da_cX4_would_0 3 _ _ _ rfl
theorem dX4_would_8 : decode cX4_would 8 = .ok (.ifCond .eq 23, 3) := dk_get _ da_cX4_would_0 4 _ _ _ rfl
theorem dX4_would_11 : decode cX4_would 11 = .ok (.iload_n 2, 1) := dk_get _ da_cX4_would_0 5 _ _ _ rfl
theorem dX4_would_12 : decode cX4_would 12 = .ok (.invokestatic 68, 3) := dk_get _ da_cX4_would_0 6 _ _ _ rfl
theorem dX4_would_15 : decode cX4_would 15 = .ok (.ifCond .eq 16, 3) := dk_get _ da_cX4_would_0 7 _ _ _ rfl
theorem dX4_would_18 : decode cX4_would 18 = .ok (.aload_n 0, 1) := dk_get _ da_cX4_would_0 8 _ _ _ rfl
theorem dX4_would_19 : decode cX4_would 19 = .ok (.getfield 12, 3) := dk_get _ da_cX4_would_0 9 _ _ _ rfl
theorem dX4_would_22 : decode cX4_would 22 = .ok (.iload_n 3, 1) := dk_get _ da_cX4_would_0 10 _ _ _ rfl
theorem dX4_would_23 : decode cX4_would 23 = .ok (.iload 4, 2) := dk_get _ da_cX4_would_0 11 _ _ _ rfl
theorem dX4_would_25 : decode cX4_would 25 = .ok (.invokevirtual 79, 3) := dk_get _ da_cX4_would_0 12 _ _ _ rfl
theorem dX4_would_28 : decode cX4_would 28 = .ok (.ifCond .ne 6, 3) := dk_get _ da_cX4_would_0 13 _ _ _ rfl
theorem dX4_would_31 : decode cX4_would 31 = .ok (.ldc 102, 2) := dk_get _ da_cX4_would_0 14 _ _ _ rfl
theorem dX4_would_33 : decode cX4_would 33 = .ok (.ireturn, 1) := dk_get _ da_cX4_would_0 15 _ _ _ rfl
theorem dX4_would_34 : decode cX4_would 34 = .ok (.aload_n 0, 1) := dk_get _ da_cX4_would_0 16 _ _ _ rfl
theorem dX4_would_35 : decode cX4_would 35 = .ok (.getfield 12, 3) := dk_get _ da_cX4_would_0 17 _ _ _ rfl
theorem dX4_would_38 : decode cX4_would 38 = .ok (.getfield 110, 3) := dk_get _ da_cX4_would_0 18 _ _ _ rfl
theorem dX4_would_41 : decode cX4_would 41 = .ok (.iload_n 1, 1) := dk_get _ da_cX4_would_0 19 _ _ _ rfl
theorem dX4_would_42 : decode cX4_would 42 = .ok (.iaload, 1) := dk_get _ da_cX4_would_0 20 _ _ _ rfl
theorem dX4_would_43 : decode cX4_would 43 = .ok (.istore 5, 2) := dk_get _ da_cX4_would_0 21 _ _ _ rfl
theorem dX4_would_45 : decode cX4_would 45 = .ok (.aload_n 0, 1) := dk_get _ da_cX4_would_0 22 _ _ _ rfl
theorem dX4_would_46 : decode cX4_would 46 = .ok (.getfield 12, 3) := dk_get _ da_cX4_would_0 23 _ _ _ rfl
theorem dX4_would_49 : decode cX4_would 49 = .ok (.getfield 110, 3) := dk_get _ da_cX4_would_0 24 _ _ _ rfl
theorem dX4_would_52 : decode cX4_would 52 = .ok (.iload_n 1, 1) := dk_get _ da_cX4_would_0 25 _ _ _ rfl
theorem dX4_would_53 : decode cX4_would 53 = .ok (.iload_n 2, 1) := dk_get _ da_cX4_would_0 26 _ _ _ rfl
theorem dX4_would_54 : decode cX4_would 54 = .ok (.iastore, 1) := dk_get _ da_cX4_would_0 27 _ _ _ rfl
theorem dX4_would_55 : decode cX4_would 55 = .ok (.aload_n 0, 1) := dk_get _ da_cX4_would_0 28 _ _ _ rfl
theorem dX4_would_56 : decode cX4_would 56 = .ok (.getfield 12, 3) := dk_get _ da_cX4_would_0 29 _ _ _ rfl
theorem dX4_would_59 : decode cX4_would 59 = .ok (.iload_n 3, 1) := dk_get _ da_cX4_would_0 30 _ _ _ rfl
theorem dX4_would_60 : decode cX4_would 60 = .ok (.iload 4, 2) := dk_get _ da_cX4_would_0 31 _ _ _ rfl
theorem dX4_would_62 : decode cX4_would 62 = .ok (.invokevirtual 207, 3) := dk_get _ da_cX4_would_0 32 _ _ _ rfl
theorem dX4_would_65 : decode cX4_would 65 = .ok (.istore 6, 2) := dk_get _ da_cX4_would_0 33 _ _ _ rfl
theorem dX4_would_67 : decode cX4_would 67 = .ok (.aload_n 0, 1) := dk_get _ da_cX4_would_0 34 _ _ _ rfl
theorem dX4_would_68 : decode cX4_would 68 = .ok (.getfield 12, 3) := dk_get _ da_cX4_would_0 35 _ _ _ rfl
theorem dX4_would_71 : decode cX4_would 71 = .ok (.getfield 110, 3) := dk_get _ da_cX4_would_0 36 _ _ _ rfl
theorem dX4_would_74 : decode cX4_would 74 = .ok (.iload_n 1, 1) := dk_get _ da_cX4_would_0 37 _ _ _ rfl
theorem dX4_would_75 : decode cX4_would 75 = .ok (.iload 5, 2) := dk_get _ da_cX4_would_0 38 _ _ _ rfl
theorem dX4_would_77 : decode cX4_would 77 = .ok (.iastore, 1) := dk_get _ da_cX4_would_0 39 _ _ _ rfl
theorem dX4_would_78 : decode cX4_would 78 = .ok (.iload 6, 2) := dk_get _ da_cX4_would_0 40 _ _ _ rfl
theorem dX4_would_80 : decode cX4_would 80 = .ok (.ireturn, 1) := dk_get _ da_cX4_would_0 41 _ _ _ rfl
def dt_cX4_mostWithoutHeavy_0 : List (Nat × Instr × Nat) := [(0, .iload_n 2, 1), (1, .ifCond .le 11, 3), (4, .iload_n 1, 1), (5, .iload_n 0, 1), (6, .imul, 1), (7, .iload_n 2, 1), (8, .idiv, 1), (9, .goto 4, 3), (12, .iconst 0, 1), (13, .ireturn, 1)]
theorem da_cX4_mostWithoutHeavy_0 : dk_all cX4_mostWithoutHeavy dt_cX4_mostWithoutHeavy_0 = true := by decide +kernel
theorem dX4_mostWithoutHeavy_0 : decode cX4_mostWithoutHeavy 0 = .ok (.iload_n 2, 1) := dk_get _ da_cX4_mostWithoutHeavy_0 0 _ _ _ rfl
theorem dX4_mostWithoutHeavy_1 : decode cX4_mostWithoutHeavy 1 = .ok (.ifCond .le 11, 3) := dk_get _ da_cX4_mostWithoutHeavy_0 1 _ _ _ rfl
theorem dX4_mostWithoutHeavy_4 : decode cX4_mostWithoutHeavy 4 = .ok (.iload_n 1, 1) := dk_get _ da_cX4_mostWithoutHeavy_0 2 _ _ _ rfl
theorem dX4_mostWithoutHeavy_5 : decode cX4_mostWithoutHeavy 5 = .ok (.iload_n 0, 1) := dk_get _ da_cX4_mostWithoutHeavy_0 3 _ _ _ rfl
theorem dX4_mostWithoutHeavy_6 : decode cX4_mostWithoutHeavy 6 = .ok (.imul, 1) := dk_get _ da_cX4_mostWithoutHeavy_0 4 _ _ _ rfl
theorem dX4_mostWithoutHeavy_7 : decode cX4_mostWithoutHeavy 7 = .ok (.iload_n 2, 1) := dk_get _ da_cX4_mostWithoutHeavy_0 5 _ _ _ rfl
theorem dX4_mostWithoutHeavy_8 : decode cX4_mostWithoutHeavy 8 = .ok (.idiv, 1) := dk_get _ da_cX4_mostWithoutHeavy_0 6 _ _ _ rfl
theorem dX4_mostWithoutHeavy_9 : decode cX4_mostWithoutHeavy 9 = .ok (.goto 4, 3) := dk_get _ da_cX4_mostWithoutHeavy_0 7 _ _ _ rfl
theorem dX4_mostWithoutHeavy_12 : decode cX4_mostWithoutHeavy 12 = .ok (.iconst 0, 1) := dk_get _ da_cX4_mostWithoutHeavy_0 8 _ _ _ rfl
theorem dX4_mostWithoutHeavy_13 : decode cX4_mostWithoutHeavy 13 = .ok (.ireturn, 1) := dk_get _ da_cX4_mostWithoutHeavy_0 9 _ _ _ rfl
set_option maxRecDepth 20000 in
theorem ggX4_farthestHeavy_X4_isHeavy : GoodIn wsX4_farthestHeavy wsX4_isHeavy := goodIn_r _ [7] rfl (by decide +kernel)
set_option maxRecDepth 20000 in
theorem gX4_farthestHeavy_X4_isHeavy : GoodIn wsX4_farthestHeavy (va_wsS RX4 273 yX4_isHeavy wsX4_isHeavy) := goodIn_app (goodIn_r _ [4, 5, 6] rfl (by decide +kernel)) ggX4_farthestHeavy_X4_isHeavy
def dt_cX4_farthestHeavy_0 : List (Nat × Instr × Nat) := [(0, .iconst (-1), 1), (1, .istore 5, 2), (3, .iconst 0, 1), (4, .istore 6, 2), (6, .iload_n 2, 1), (7, .istore 7, 2), (9, .iload 7, 2), (11, .aload_n 0, 1), (12, .getfield 12, 3), (15, .getfield 57, 3), (18, .if_icmp .ge 49, 3), (21, .aload_n 0, 1), (22, .getfield 12, 3), (25, .getfield 110, 3), (28, .iload 7, 2), (30, .iaload, 1), (31, .iload_n 1, 1), (32, .if_icmp .ne 6, 3), (35, .iinc 6 1, 3), (38, .iload 6, 2), (40, .iload 7, 2), (42, .iconst 1, 1), (43, .iadd, 1), (44, .iload_n 2, 1), (45, .isub, 1), (46, .iload_n 3, 1), (47, .iload 4, 2), (49, .invokestatic 273, 3), (52, .ifCond .eq 9, 3), (55, .iload 7, 2), (57, .iconst 1, 1), (58, .iadd, 1), (59, .istore 5, 2), (61, .iinc 7 1, 3), (64, .goto (-55), 3), (67, .iload 5, 2), (69, .ireturn, 1)]
theorem da_cX4_farthestHeavy_0 : dk_all cX4_farthestHeavy dt_cX4_farthestHeavy_0 = true := by decide +kernel
theorem dX4_farthestHeavy_0 : decode cX4_farthestHeavy 0 = .ok (.iconst (-1), 1) := dk_get _ da_cX4_farthestHeavy_0 0 _ _ _ rfl
theorem dX4_farthestHeavy_1 : decode cX4_farthestHeavy 1 = .ok (.istore 5, 2) := dk_get _ da_cX4_farthestHeavy_0 1 _ _ _ rfl
theorem dX4_farthestHeavy_3 : decode cX4_farthestHeavy 3 = .ok (.iconst 0, 1) := dk_get _ da_cX4_farthestHeavy_0 2 _ _ _ rfl
theorem dX4_farthestHeavy_4 : decode cX4_farthestHeavy 4 = .ok (.istore 6, 2) := dk_get _ da_cX4_farthestHeavy_0 3 _ _ _ rfl
theorem dX4_farthestHeavy_6 : decode cX4_farthestHeavy 6 = .ok (.iload_n 2, 1) := dk_get _ da_cX4_farthestHeavy_0 4 _ _ _ rfl
theorem dX4_farthestHeavy_7 : decode cX4_farthestHeavy 7 = .ok (.istore 7, 2) := dk_get _ da_cX4_farthestHeavy_0 5 _ _ _ rfl
theorem dX4_farthestHeavy_9 : decode cX4_farthestHeavy 9 = .ok (.iload 7, 2) := dk_get _ da_cX4_farthestHeavy_0 6 _ _ _ rfl
theorem dX4_farthestHeavy_11 : decode cX4_farthestHeavy 11 = .ok (.aload_n 0, 1) := dk_get _ da_cX4_farthestHeavy_0 7 _ _ _ rfl
theorem dX4_farthestHeavy_12 : decode cX4_farthestHeavy 12 = .ok (.getfield 12, 3) := dk_get _ da_cX4_farthestHeavy_0 8 _ _ _ rfl
theorem dX4_farthestHeavy_15 : decode cX4_farthestHeavy 15 = .ok (.getfield 57, 3) := dk_get _ da_cX4_farthestHeavy_0 9 _ _ _ rfl
theorem dX4_farthestHeavy_18 : decode cX4_farthestHeavy 18 = .ok (.if_icmp .ge 49, 3) := dk_get _ da_cX4_farthestHeavy_0 10 _ _ _ rfl
theorem dX4_farthestHeavy_21 : decode cX4_farthestHeavy 21 = .ok (.aload_n 0, 1) := dk_get _ da_cX4_farthestHeavy_0 11 _ _ _ rfl
theorem dX4_farthestHeavy_22 : decode cX4_farthestHeavy 22 = .ok (.getfield 12, 3) := dk_get _ da_cX4_farthestHeavy_0 12 _ _ _ rfl
theorem dX4_farthestHeavy_25 : decode cX4_farthestHeavy 25 = .ok (.getfield 110, 3) := dk_get _ da_cX4_farthestHeavy_0 13 _ _ _ rfl
theorem dX4_farthestHeavy_28 : decode cX4_farthestHeavy 28 = .ok (.iload 7, 2) := dk_get _ da_cX4_farthestHeavy_0 14 _ _ _ rfl
theorem dX4_farthestHeavy_30 : decode cX4_farthestHeavy 30 = .ok (.iaload, 1) := dk_get _ da_cX4_farthestHeavy_0 15 _ _ _ rfl
theorem dX4_farthestHeavy_31 : decode cX4_farthestHeavy 31 = .ok (.iload_n 1, 1) := dk_get _ da_cX4_farthestHeavy_0 16 _ _ _ rfl
theorem dX4_farthestHeavy_32 : decode cX4_farthestHeavy 32 = .ok (.if_icmp .ne 6, 3) := dk_get _ da_cX4_farthestHeavy_0 17 _ _ _ rfl
theorem dX4_farthestHeavy_35 : decode cX4_farthestHeavy 35 = .ok (.iinc 6 1, 3) := dk_get _ da_cX4_farthestHeavy_0 18 _ _ _ rfl
theorem dX4_farthestHeavy_38 : decode cX4_farthestHeavy 38 = .ok (.iload 6, 2) := dk_get _ da_cX4_farthestHeavy_0 19 _ _ _ rfl
theorem dX4_farthestHeavy_40 : decode cX4_farthestHeavy 40 = .ok (.iload 7, 2) := dk_get _ da_cX4_farthestHeavy_0 20 _ _ _ rfl
theorem dX4_farthestHeavy_42 : decode cX4_farthestHeavy 42 = .ok (.iconst 1, 1) := dk_get _ da_cX4_farthestHeavy_0 21 _ _ _ rfl
theorem dX4_farthestHeavy_43 : decode cX4_farthestHeavy 43 = .ok (.iadd, 1) := dk_get _ da_cX4_farthestHeavy_0 22 _ _ _ rfl
theorem dX4_farthestHeavy_44 : decode cX4_farthestHeavy 44 = .ok (.iload_n 2, 1) := dk_get _ da_cX4_farthestHeavy_0 23 _ _ _ rfl
theorem dX4_farthestHeavy_45 : decode cX4_farthestHeavy 45 = .ok (.isub, 1) := dk_get _ da_cX4_farthestHeavy_0 24 _ _ _ rfl
theorem dX4_farthestHeavy_46 : decode cX4_farthestHeavy 46 = .ok (.iload_n 3, 1) := dk_get _ da_cX4_farthestHeavy_0 25 _ _ _ rfl
theorem dX4_farthestHeavy_47 : decode cX4_farthestHeavy 47 = .ok (.iload 4, 2) := dk_get _ da_cX4_farthestHeavy_0 26 _ _ _ rfl
theorem dX4_farthestHeavy_49 : decode cX4_farthestHeavy 49 = .ok (.invokestatic 273, 3) := dk_get _ da_cX4_farthestHeavy_0 27 _ _ _ rfl
theorem dX4_farthestHeavy_52 : decode cX4_farthestHeavy 52 = .ok (.ifCond .eq 9, 3) := dk_get _ da_cX4_farthestHeavy_0 28 _ _ _ rfl
theorem dX4_farthestHeavy_55 : decode cX4_farthestHeavy 55 = .ok (.iload 7, 2) := dk_get _ da_cX4_farthestHeavy_0 29 _ _ _ rfl
theorem dX4_farthestHeavy_57 : decode cX4_farthestHeavy 57 = .ok (.iconst 1, 1) := dk_get _ da_cX4_farthestHeavy_0 30 _ _ _ rfl
theorem dX4_farthestHeavy_58 : decode cX4_farthestHeavy 58 = .ok (.iadd, 1) := dk_get _ da_cX4_farthestHeavy_0 31 _ _ _ rfl
theorem dX4_farthestHeavy_59 : decode cX4_farthestHeavy 59 = .ok (.istore 5, 2) := dk_get _ da_cX4_farthestHeavy_0 32 _ _ _ rfl
theorem dX4_farthestHeavy_61 : decode cX4_farthestHeavy 61 = .ok (.iinc 7 1, 3) := dk_get _ da_cX4_farthestHeavy_0 33 _ _ _ rfl
theorem dX4_farthestHeavy_64 : decode cX4_farthestHeavy 64 = .ok (.goto (-55), 3) := dk_get _ da_cX4_farthestHeavy_0 34 _ _ _ rfl
theorem dX4_farthestHeavy_67 : decode cX4_farthestHeavy 67 = .ok (.iload 5, 2) := dk_get _ da_cX4_farthestHeavy_0 35 _ _ _ rfl
theorem dX4_farthestHeavy_69 : decode cX4_farthestHeavy 69 = .ok (.ireturn, 1) := dk_get _ da_cX4_farthestHeavy_0 36 _ _ _ rfl
theorem mi_wsX4_slideWindow_wsX4_slideWindow_r1 : ∀ w ∈ wsX4_slideWindow_r1, w ∈ wsX4_slideWindow := fun _ h => (List.mem_cons_of_mem _ (List.mem_append_left _ (List.mem_append_left _ (List.mem_append_left _ (List.mem_append_left _ h)))))
theorem mi_wsX4_slideWindow_wsX00 : ∀ w ∈ wsX00, w ∈ wsX4_slideWindow := fun _ h => (List.mem_cons_of_mem _ (List.mem_append_left _ (List.mem_append_right _ h)))
theorem mi_wsX4_slideWindow_wsX10 : ∀ w ∈ wsX10, w ∈ wsX4_slideWindow := fun _ h => (List.mem_cons_of_mem _ (List.mem_append_right _ h))
set_option maxRecDepth 20000 in
theorem ggX4_slideWindow_X1_learn : GoodIn wsX4_slideWindow wsX1_learn := goodIn_k _ [(wsX4_slideWindow_r1, [8, 9, 10, 11, 12, 13, 14, 15, 16]), (wsX00, [0, 1]), (wsX10, [0, 1, 2, 3])] (gk_c mi_wsX4_slideWindow_wsX4_slideWindow_r1 (gk_c mi_wsX4_slideWindow_wsX00 (gk_c mi_wsX4_slideWindow_wsX10 gk_n))) rfl (by decide +kernel)
set_option maxRecDepth 20000 in
theorem gX4_slideWindow_X1_learn : GoodIn wsX4_slideWindow (wsV RX4 117 RX1 yX1_learn wsX1_learn) := goodIn_app (goodIn_k _ [(wsX4_slideWindow_r1, [4, 5, 6, 7])] (gk_c mi_wsX4_slideWindow_wsX4_slideWindow_r1 gk_n) rfl (by decide +kernel)) ggX4_slideWindow_X1_learn
theorem mi_wsX4_slideWindow_wsX4_slideWindow_r2 : ∀ w ∈ wsX4_slideWindow_r2, w ∈ wsX4_slideWindow := fun _ h => (List.mem_cons_of_mem _ (List.mem_append_left _ (List.mem_append_left _ (List.mem_append_left _ (List.mem_append_right _ h)))))
set_option maxRecDepth 20000 in
theorem ggX4_slideWindow_X1_clear : GoodIn wsX4_slideWindow wsX1_clear := goodIn_k _ [(wsX4_slideWindow_r1, [20, 21, 22, 23]), (wsX4_slideWindow_r2, [0, 1, 2, 3]), (wsX10, [0, 1, 2, 3])] (gk_c mi_wsX4_slideWindow_wsX4_slideWindow_r1 (gk_c mi_wsX4_slideWindow_wsX4_slideWindow_r2 (gk_c mi_wsX4_slideWindow_wsX10 gk_n))) rfl (by decide +kernel)
set_option maxRecDepth 20000 in
theorem gX4_slideWindow_X1_clear : GoodIn wsX4_slideWindow (wsV RX4 221 RX1 yX1_clear wsX1_clear) := goodIn_app (goodIn_k _ [(wsX4_slideWindow_r1, [17, 18, 19, 7])] (gk_c mi_wsX4_slideWindow_wsX4_slideWindow_r1 gk_n) rfl (by decide +kernel)) ggX4_slideWindow_X1_clear
set_option maxRecDepth 20000 in
theorem ggX4_slideWindow_J7_fill_53178 : GoodIn wsX4_slideWindow wsJ7_fill_53178 := goodIn_k _ [(wsX4_slideWindow_r2, [3])] (gk_c mi_wsX4_slideWindow_wsX4_slideWindow_r2 gk_n) rfl (by decide +kernel)
set_option maxRecDepth 20000 in
theorem gX4_slideWindow_J7_fill_53178 : GoodIn wsX4_slideWindow (va_wsS RX4 231 yJ7_fill_53178 wsJ7_fill_53178) := goodIn_app (goodIn_k _ [(wsX4_slideWindow_r2, [4, 1, 2])] (gk_c mi_wsX4_slideWindow_wsX4_slideWindow_r2 gk_n) rfl (by decide +kernel)) ggX4_slideWindow_J7_fill_53178
set_option maxRecDepth 20000 in
theorem ggX4_slideWindow_X1_take : GoodIn wsX4_slideWindow wsX1_take := goodIn_k _ [(wsX4_slideWindow_r2, [8]), (wsX4_slideWindow_r1, [21, 10, 22, 23]), (wsX10, [0, 1, 2, 3])] (gk_c mi_wsX4_slideWindow_wsX4_slideWindow_r2 (gk_c mi_wsX4_slideWindow_wsX4_slideWindow_r1 (gk_c mi_wsX4_slideWindow_wsX10 gk_n))) rfl (by decide +kernel)
set_option maxRecDepth 20000 in
theorem gX4_slideWindow_X1_take : GoodIn wsX4_slideWindow (wsV RX4 224 RX1 yX1_take wsX1_take) := goodIn_app (goodIn_k _ [(wsX4_slideWindow_r2, [5, 6, 7]), (wsX4_slideWindow_r1, [7])] (gk_c mi_wsX4_slideWindow_wsX4_slideWindow_r2 (gk_c mi_wsX4_slideWindow_wsX4_slideWindow_r1 gk_n)) rfl (by decide +kernel)) ggX4_slideWindow_X1_take
set_option maxRecDepth 20000 in
theorem ggX4_slideWindow_X1_drop : GoodIn wsX4_slideWindow wsX1_drop := goodIn_k _ [(wsX4_slideWindow_r2, [12]), (wsX4_slideWindow_r1, [21, 10, 22]), (wsX10, [0, 1, 2, 3])] (gk_c mi_wsX4_slideWindow_wsX4_slideWindow_r2 (gk_c mi_wsX4_slideWindow_wsX4_slideWindow_r1 (gk_c mi_wsX4_slideWindow_wsX10 gk_n))) rfl (by decide +kernel)
set_option maxRecDepth 20000 in
theorem gX4_slideWindow_X1_drop : GoodIn wsX4_slideWindow (wsV RX4 277 RX1 yX1_drop wsX1_drop) := goodIn_app (goodIn_k _ [(wsX4_slideWindow_r2, [9, 10, 11]), (wsX4_slideWindow_r1, [7])] (gk_c mi_wsX4_slideWindow_wsX4_slideWindow_r2 (gk_c mi_wsX4_slideWindow_wsX4_slideWindow_r1 gk_n)) rfl (by decide +kernel)) ggX4_slideWindow_X1_drop
theorem mi_wsX4_slideWindow_wsX40 : ∀ w ∈ wsX40, w ∈ wsX4_slideWindow := fun _ h => (List.mem_cons_of_mem _ (List.mem_append_left _ (List.mem_append_left _ (List.mem_append_right _ h))))
set_option maxRecDepth 20000 in
theorem ggX4_slideWindow_X4_creditHeavy : GoodIn wsX4_slideWindow wsX4_creditHeavy := goodIn_k _ [(wsX4_slideWindow_r2, [17]), (wsX4_slideWindow_r1, [1, 3, 0]), (wsX4_slideWindow_r2, [18]), (wsX4_slideWindow_r1, [2]), (wsX4_slideWindow_r2, [19, 20, 16, 21]), (wsX40, [0, 1, 2, 3, 4, 5, 6, 7, 8]), (wsX00, [0, 1]), (wsX10, [0, 1, 2, 3])] (gk_c mi_wsX4_slideWindow_wsX4_slideWindow_r2 (gk_c mi_wsX4_slideWindow_wsX4_slideWindow_r1 (gk_c mi_wsX4_slideWindow_wsX4_slideWindow_r2 (gk_c mi_wsX4_slideWindow_wsX4_slideWindow_r1 (gk_c mi_wsX4_slideWindow_wsX4_slideWindow_r2 (gk_c mi_wsX4_slideWindow_wsX40 (gk_c mi_wsX4_slideWindow_wsX00 (gk_c mi_wsX4_slideWindow_wsX10 gk_n)))))))) rfl (by decide +kernel)
set_option maxRecDepth 20000 in
theorem gX4_slideWindow_X4_creditHeavy : GoodIn wsX4_slideWindow (wsV RX4 280 RX4 yX4_creditHeavy wsX4_creditHeavy) := goodIn_app (goodIn_k _ [(wsX4_slideWindow_r2, [13, 14, 15, 16])] (gk_c mi_wsX4_slideWindow_wsX4_slideWindow_r2 gk_n) rfl (by decide +kernel)) ggX4_slideWindow_X4_creditHeavy
def dt_cX4_slideWindow_0 : List (Nat × Instr × Nat) := [(0, .aload_n 0, 1), (1, .getfield 28, 3), (4, .aload_n 0, 1), (5, .getfield 12, 3), (8, .invokevirtual 117, 3), (11, .aload_n 0, 1), (12, .getfield 28, 3), (15, .invokevirtual 221, 3), (18, .aload_n 0, 1), (19, .getfield 42, 3), (22, .iconst 0, 1), (23, .invokestatic 231, 3), (26, .iconst 0, 1), (27, .istore 4, 2), (29, .iconst 0, 1), (30, .istore 5, 2), (32, .iload 5, 2), (34, .aload_n 0, 1), (35, .getfield 12, 3), (38, .getfield 57, 3), (41, .if_icmp .ge 56, 3), (44, .aload_n 0, 1), (45, .getfield 28, 3), (48, .iload 5, 2), (50, .invokevirtual 224, 3), (53, .iload 5, 2), (55, .iload_n 1, 1), (56, .if_icmp .lt 14, 3), (59, .aload_n 0, 1), (60, .getfield 28, 3), (63, .iload 5, 2), (65, .iload_n 1, 1), (66, .isub, 1), (67, .invokevirtual 277, 3), (70, .iload 5, 2), (72, .iload_n 1, 1), (73, .iconst 1, 1), (74, .isub, 1), (75, .if_icmp .lt 16, 3), (78, .aload_n 0, 1), (79, .iload_n 1, 1), (80, .iload_n 2, 1), (81, .iload_n 3, 1), (82, .invokevirtual 280, 3), (85, .ifCond .eq 6, 3), (88, .iinc 4 1, 3), (91, .iinc 5 1, 3), (94, .goto (-62), 3), (97, .iload 4, 2), (99, .ireturn, 1)]
theorem da_cX4_slideWindow_0 : dk_all cX4_slideWindow dt_cX4_slideWindow_0 = true := by decide +kernel
theorem dX4_slideWindow_0 : decode cX4_slideWindow 0 = .ok (.aload_n 0, 1) := dk_get _ da_cX4_slideWindow_0 0 _ _ _ rfl
theorem dX4_slideWindow_1 : decode cX4_slideWindow 1 = .ok (.getfield 28, 3) := dk_get _ da_cX4_slideWindow_0 1 _ _ _ rfl
theorem dX4_slideWindow_4 : decode cX4_slideWindow 4 = .ok (.aload_n 0, 1) := dk_get _ da_cX4_slideWindow_0 2 _ _ _ rfl
theorem dX4_slideWindow_5 : decode cX4_slideWindow 5 = .ok (.getfield 12, 3) := dk_get _ da_cX4_slideWindow_0 3 _ _ _ rfl
theorem dX4_slideWindow_8 : decode cX4_slideWindow 8 = .ok (.invokevirtual 117, 3) := dk_get _ da_cX4_slideWindow_0 4 _ _ _ rfl
theorem dX4_slideWindow_11 : decode cX4_slideWindow 11 = .ok (.aload_n 0, 1) := dk_get _ da_cX4_slideWindow_0 5 _ _ _ rfl
theorem dX4_slideWindow_12 : decode cX4_slideWindow 12 = .ok (.getfield 28, 3) := dk_get _ da_cX4_slideWindow_0 6 _ _ _ rfl
theorem dX4_slideWindow_15 : decode cX4_slideWindow 15 = .ok (.invokevirtual 221, 3) := dk_get _ da_cX4_slideWindow_0 7 _ _ _ rfl
theorem dX4_slideWindow_18 : decode cX4_slideWindow 18 = .ok (.aload_n 0, 1) := dk_get _ da_cX4_slideWindow_0 8 _ _ _ rfl
theorem dX4_slideWindow_19 : decode cX4_slideWindow 19 = .ok (.getfield 42, 3) := dk_get _ da_cX4_slideWindow_0 9 _ _ _ rfl
theorem dX4_slideWindow_22 : decode cX4_slideWindow 22 = .ok (.iconst 0, 1) := dk_get _ da_cX4_slideWindow_0 10 _ _ _ rfl
theorem dX4_slideWindow_23 : decode cX4_slideWindow 23 = .ok (.invokestatic 231, 3) := dk_get _ da_cX4_slideWindow_0 11 _ _ _ rfl
theorem dX4_slideWindow_26 : decode cX4_slideWindow 26 = .ok (.iconst 0, 1) := dk_get _ da_cX4_slideWindow_0 12 _ _ _ rfl
theorem dX4_slideWindow_27 : decode cX4_slideWindow 27 = .ok (.istore 4, 2) := dk_get _ da_cX4_slideWindow_0 13 _ _ _ rfl
theorem dX4_slideWindow_29 : decode cX4_slideWindow 29 = .ok (.iconst 0, 1) := dk_get _ da_cX4_slideWindow_0 14 _ _ _ rfl
theorem dX4_slideWindow_30 : decode cX4_slideWindow 30 = .ok (.istore 5, 2) := dk_get _ da_cX4_slideWindow_0 15 _ _ _ rfl
theorem dX4_slideWindow_32 : decode cX4_slideWindow 32 = .ok (.iload 5, 2) := dk_get _ da_cX4_slideWindow_0 16 _ _ _ rfl
theorem dX4_slideWindow_34 : decode cX4_slideWindow 34 = .ok (.aload_n 0, 1) := dk_get _ da_cX4_slideWindow_0 17 _ _ _ rfl
theorem dX4_slideWindow_35 : decode cX4_slideWindow 35 = .ok (.getfield 12, 3) := dk_get _ da_cX4_slideWindow_0 18 _ _ _ rfl
theorem dX4_slideWindow_38 : decode cX4_slideWindow 38 = .ok (.getfield 57, 3) := dk_get _ da_cX4_slideWindow_0 19 _ _ _ rfl
theorem dX4_slideWindow_41 : decode cX4_slideWindow 41 = .ok (.if_icmp .ge 56, 3) := dk_get _ da_cX4_slideWindow_0 20 _ _ _ rfl
theorem dX4_slideWindow_44 : decode cX4_slideWindow 44 = .ok (.aload_n 0, 1) := dk_get _ da_cX4_slideWindow_0 21 _ _ _ rfl
theorem dX4_slideWindow_45 : decode cX4_slideWindow 45 = .ok (.getfield 28, 3) := dk_get _ da_cX4_slideWindow_0 22 _ _ _ rfl
theorem dX4_slideWindow_48 : decode cX4_slideWindow 48 = .ok (.iload 5, 2) := dk_get _ da_cX4_slideWindow_0 23 _ _ _ rfl
theorem dX4_slideWindow_50 : decode cX4_slideWindow 50 = .ok (.invokevirtual 224, 3) := dk_get _ da_cX4_slideWindow_0 24 _ _ _ rfl
theorem dX4_slideWindow_53 : decode cX4_slideWindow 53 = .ok (.iload 5, 2) := dk_get _ da_cX4_slideWindow_0 25 _ _ _ rfl
theorem dX4_slideWindow_55 : decode cX4_slideWindow 55 = .ok (.iload_n 1, 1) := dk_get _ da_cX4_slideWindow_0 26 _ _ _ rfl
theorem dX4_slideWindow_56 : decode cX4_slideWindow 56 = .ok (.if_icmp .lt 14, 3) := dk_get _ da_cX4_slideWindow_0 27 _ _ _ rfl
theorem dX4_slideWindow_59 : decode cX4_slideWindow 59 = .ok (.aload_n 0, 1) := dk_get _ da_cX4_slideWindow_0 28 _ _ _ rfl
theorem dX4_slideWindow_60 : decode cX4_slideWindow 60 = .ok (.getfield 28, 3) := dk_get _ da_cX4_slideWindow_0 29 _ _ _ rfl
theorem dX4_slideWindow_63 : decode cX4_slideWindow 63 = .ok (.iload 5, 2) := dk_get _ da_cX4_slideWindow_0 30 _ _ _ rfl
theorem dX4_slideWindow_65 : decode cX4_slideWindow 65 = .ok (.iload_n 1, 1) := dk_get _ da_cX4_slideWindow_0 31 _ _ _ rfl
theorem dX4_slideWindow_66 : decode cX4_slideWindow 66 = .ok (.isub, 1) := dk_get _ da_cX4_slideWindow_0 32 _ _ _ rfl
theorem dX4_slideWindow_67 : decode cX4_slideWindow 67 = .ok (.invokevirtual 277, 3) := dk_get _ da_cX4_slideWindow_0 33 _ _ _ rfl
theorem dX4_slideWindow_70 : decode cX4_slideWindow 70 = .ok (.iload 5, 2) := dk_get _ da_cX4_slideWindow_0 34 _ _ _ rfl
theorem dX4_slideWindow_72 : decode cX4_slideWindow 72 = .ok (.iload_n 1, 1) := dk_get _ da_cX4_slideWindow_0 35 _ _ _ rfl
theorem dX4_slideWindow_73 : decode cX4_slideWindow 73 = .ok (.iconst 1, 1) := dk_get _ da_cX4_slideWindow_0 36 _ _ _ rfl
theorem dX4_slideWindow_74 : decode cX4_slideWindow 74 = .ok (.isub, 1) := dk_get _ da_cX4_slideWindow_0 37 _ _ _ rfl
theorem dX4_slideWindow_75 : decode cX4_slideWindow 75 = .ok (.if_icmp .lt 16, 3) := dk_get _ da_cX4_slideWindow_0 38 _ _ _ rfl
theorem dX4_slideWindow_78 : decode cX4_slideWindow 78 = .ok (.aload_n 0, 1) := dk_get _ da_cX4_slideWindow_0 39 _ _ _ rfl
theorem dX4_slideWindow_79 : decode cX4_slideWindow 79 = .ok (.iload_n 1, 1) := dk_get _ da_cX4_slideWindow_0 40 _ _ _ rfl
theorem dX4_slideWindow_80 : decode cX4_slideWindow 80 = .ok (.iload_n 2, 1) := dk_get _ da_cX4_slideWindow_0 41 _ _ _ rfl
theorem dX4_slideWindow_81 : decode cX4_slideWindow 81 = .ok (.iload_n 3, 1) := dk_get _ da_cX4_slideWindow_0 42 _ _ _ rfl
theorem dX4_slideWindow_82 : decode cX4_slideWindow 82 = .ok (.invokevirtual 280, 3) := dk_get _ da_cX4_slideWindow_0 43 _ _ _ rfl
theorem dX4_slideWindow_85 : decode cX4_slideWindow 85 = .ok (.ifCond .eq 6, 3) := dk_get _ da_cX4_slideWindow_0 44 _ _ _ rfl
theorem dX4_slideWindow_88 : decode cX4_slideWindow 88 = .ok (.iinc 4 1, 3) := dk_get _ da_cX4_slideWindow_0 45 _ _ _ rfl
theorem dX4_slideWindow_91 : decode cX4_slideWindow 91 = .ok (.iinc 5 1, 3) := dk_get _ da_cX4_slideWindow_0 46 _ _ _ rfl
theorem dX4_slideWindow_94 : decode cX4_slideWindow 94 = .ok (.goto (-62), 3) := dk_get _ da_cX4_slideWindow_0 47 _ _ _ rfl
theorem dX4_slideWindow_97 : decode cX4_slideWindow 97 = .ok (.iload 4, 2) := dk_get _ da_cX4_slideWindow_0 48 _ _ _ rfl
theorem dX4_slideWindow_99 : decode cX4_slideWindow 99 = .ok (.ireturn, 1) := dk_get _ da_cX4_slideWindow_0 49 _ _ _ rfl
set_option maxRecDepth 20000 in
theorem ggX4_creditHeavy_X4_isHeavy : GoodIn wsX4_creditHeavy wsX4_isHeavy := goodIn_r _ [9] rfl (by decide +kernel)
set_option maxRecDepth 20000 in
theorem gX4_creditHeavy_X4_isHeavy : GoodIn wsX4_creditHeavy (va_wsS RX4 273 yX4_isHeavy wsX4_isHeavy) := goodIn_app (goodIn_r _ [6, 7, 8] rfl (by decide +kernel)) ggX4_creditHeavy_X4_isHeavy
def dt_cX4_creditHeavy_0 : List (Nat × Instr × Nat) := [(0, .iconst 0, 1), (1, .istore 4, 2), (3, .iconst 0, 1), (4, .istore 5, 2), (6, .iload 5, 2), (8, .aload_n 0, 1), (9, .getfield 12, 3), (12, .getfield 57, 3), (15, .if_icmp .ge 42, 3), (18, .aload_n 0, 1), (19, .getfield 28, 3), (22, .getfield 283, 3), (25, .iload 5, 2), (27, .iaload, 1), (28, .iload_n 1, 1), (29, .iload_n 2, 1), (30, .iload_n 3, 1), (31, .invokestatic 273, 3), (34, .ifCond .eq 17, 3), (37, .aload_n 0, 1), (38, .getfield 42, 3), (41, .iload 5, 2), (43, .dup2, 1), (44, .iaload, 1), (45, .iconst 1, 1), (46, .iadd, 1), (47, .iastore, 1), (48, .iconst 1, 1), (49, .istore 4, 2), (51, .iinc 5 1, 3), (54, .goto (-48), 3), (57, .iload 4, 2), (59, .ireturn, 1)]
theorem da_cX4_creditHeavy_0 : dk_all cX4_creditHeavy dt_cX4_creditHeavy_0 = true := by decide +kernel
theorem dX4_creditHeavy_0 : decode cX4_creditHeavy 0 = .ok (.iconst 0, 1) := dk_get _ da_cX4_creditHeavy_0 0 _ _ _ rfl
theorem dX4_creditHeavy_1 : decode cX4_creditHeavy 1 = .ok (.istore 4, 2) := dk_get _ da_cX4_creditHeavy_0 1 _ _ _ rfl
theorem dX4_creditHeavy_3 : decode cX4_creditHeavy 3 = .ok (.iconst 0, 1) := dk_get _ da_cX4_creditHeavy_0 2 _ _ _ rfl
theorem dX4_creditHeavy_4 : decode cX4_creditHeavy 4 = .ok (.istore 5, 2) := dk_get _ da_cX4_creditHeavy_0 3 _ _ _ rfl
theorem dX4_creditHeavy_6 : decode cX4_creditHeavy 6 = .ok (.iload 5, 2) := dk_get _ da_cX4_creditHeavy_0 4 _ _ _ rfl
theorem dX4_creditHeavy_8 : decode cX4_creditHeavy 8 = .ok (.aload_n 0, 1) := dk_get _ da_cX4_creditHeavy_0 5 _ _ _ rfl
theorem dX4_creditHeavy_9 : decode cX4_creditHeavy 9 = .ok (.getfield 12, 3) := dk_get _ da_cX4_creditHeavy_0 6 _ _ _ rfl
theorem dX4_creditHeavy_12 : decode cX4_creditHeavy 12 = .ok (.getfield 57, 3) := dk_get _ da_cX4_creditHeavy_0 7 _ _ _ rfl
theorem dX4_creditHeavy_15 : decode cX4_creditHeavy 15 = .ok (.if_icmp .ge 42, 3) := dk_get _ da_cX4_creditHeavy_0 8 _ _ _ rfl
theorem dX4_creditHeavy_18 : decode cX4_creditHeavy 18 = .ok (.aload_n 0, 1) := dk_get _ da_cX4_creditHeavy_0 9 _ _ _ rfl
theorem dX4_creditHeavy_19 : decode cX4_creditHeavy 19 = .ok (.getfield 28, 3) := dk_get _ da_cX4_creditHeavy_0 10 _ _ _ rfl
theorem dX4_creditHeavy_22 : decode cX4_creditHeavy 22 = .ok (.getfield 283, 3) := dk_get _ da_cX4_creditHeavy_0 11 _ _ _ rfl
theorem dX4_creditHeavy_25 : decode cX4_creditHeavy 25 = .ok (.iload 5, 2) := dk_get _ da_cX4_creditHeavy_0 12 _ _ _ rfl
theorem dX4_creditHeavy_27 : decode cX4_creditHeavy 27 = .ok (.iaload, 1) := dk_get _ da_cX4_creditHeavy_0 13 _ _ _ rfl
theorem dX4_creditHeavy_28 : decode cX4_creditHeavy 28 = .ok (.iload_n 1, 1) := dk_get _ da_cX4_creditHeavy_0 14 _ _ _ rfl
theorem dX4_creditHeavy_29 : decode cX4_creditHeavy 29 = .ok (.iload_n 2, 1) := dk_get _ da_cX4_creditHeavy_0 15 _ _ _ rfl
theorem dX4_creditHeavy_30 : decode cX4_creditHeavy 30 = .ok (.iload_n 3, 1) := dk_get _ da_cX4_creditHeavy_0 16 _ _ _ rfl
theorem dX4_creditHeavy_31 : decode cX4_creditHeavy 31 = .ok (.invokestatic 273, 3) := dk_get _ da_cX4_creditHeavy_0 17 _ _ _ rfl
theorem dX4_creditHeavy_34 : decode cX4_creditHeavy 34 = .ok (.ifCond .eq 17, 3) := dk_get _ da_cX4_creditHeavy_0 18 _ _ _ rfl
theorem dX4_creditHeavy_37 : decode cX4_creditHeavy 37 = .ok (.aload_n 0, 1) := dk_get _ da_cX4_creditHeavy_0 19 _ _ _ rfl
theorem dX4_creditHeavy_38 : decode cX4_creditHeavy 38 = .ok (.getfield 42, 3) := dk_get _ da_cX4_creditHeavy_0 20 _ _ _ rfl
theorem dX4_creditHeavy_41 : decode cX4_creditHeavy 41 = .ok (.iload 5, 2) := dk_get _ da_cX4_creditHeavy_0 21 _ _ _ rfl
theorem dX4_creditHeavy_43 : decode cX4_creditHeavy 43 = .ok (.dup2, 1) := dk_get _ da_cX4_creditHeavy_0 22 _ _ _ rfl
theorem dX4_creditHeavy_44 : decode cX4_creditHeavy 44 = .ok (.iaload, 1) := dk_get _ da_cX4_creditHeavy_0 23 _ _ _ rfl
theorem dX4_creditHeavy_45 : decode cX4_creditHeavy 45 = .ok (.iconst 1, 1) := dk_get _ da_cX4_creditHeavy_0 24 _ _ _ rfl
theorem dX4_creditHeavy_46 : decode cX4_creditHeavy 46 = .ok (.iadd, 1) := dk_get _ da_cX4_creditHeavy_0 25 _ _ _ rfl
theorem dX4_creditHeavy_47 : decode cX4_creditHeavy 47 = .ok (.iastore, 1) := dk_get _ da_cX4_creditHeavy_0 26 _ _ _ rfl
theorem dX4_creditHeavy_48 : decode cX4_creditHeavy 48 = .ok (.iconst 1, 1) := dk_get _ da_cX4_creditHeavy_0 27 _ _ _ rfl
theorem dX4_creditHeavy_49 : decode cX4_creditHeavy 49 = .ok (.istore 4, 2) := dk_get _ da_cX4_creditHeavy_0 28 _ _ _ rfl
theorem dX4_creditHeavy_51 : decode cX4_creditHeavy 51 = .ok (.iinc 5 1, 3) := dk_get _ da_cX4_creditHeavy_0 29 _ _ _ rfl
theorem dX4_creditHeavy_54 : decode cX4_creditHeavy 54 = .ok (.goto (-48), 3) := dk_get _ da_cX4_creditHeavy_0 30 _ _ _ rfl
theorem dX4_creditHeavy_57 : decode cX4_creditHeavy 57 = .ok (.iload 4, 2) := dk_get _ da_cX4_creditHeavy_0 31 _ _ _ rfl
theorem dX4_creditHeavy_59 : decode cX4_creditHeavy 59 = .ok (.ireturn, 1) := dk_get _ da_cX4_creditHeavy_0 32 _ _ _ rfl
def dt_cX4_kindOfMostWins_0 : List (Nat × Instr × Nat) := [(0, .iconst (-1), 1), (1, .istore_n 1, 1), (2, .iconst 0, 1), (3, .istore_n 2, 1), (4, .iconst 0, 1), (5, .istore_n 3, 1), (6, .iload_n 3, 1), (7, .aload_n 0, 1), (8, .getfield 12, 3), (11, .getfield 57, 3), (14, .if_icmp .ge 76, 3), (17, .iload_n 1, 1), (18, .iconst (-1), 1), (19, .if_icmp .eq 38, 3), (22, .aload_n 0, 1), (23, .getfield 42, 3), (26, .iload_n 3, 1), (27, .iaload, 1), (28, .iload_n 2, 1), (29, .if_icmp .ne 28, 3), (32, .aload_n 0, 1), (33, .getfield 12, 3), (36, .getfield 110, 3), (39, .iload_n 3, 1), (40, .iaload, 1), (41, .aload_n 0, 1), (42, .getfield 12, 3), (45, .getfield 110, 3), (48, .iload_n 1, 1), (49, .iaload, 1), (50, .if_icmp .ge 7, 3), (53, .iconst 1, 1), (54, .goto 4, 3), (57, .iconst 0, 1), (58, .istore 4, 2), (60, .aload_n 0, 1), (61, .getfield 42, 3), (64, .iload_n 3, 1), (65, .iaload, 1), (66, .iload_n 2, 1), (67, .if_icmp .gt 8, 3), (70, .iload 4, 2), (72, .ifCond .eq 12, 3), (75, .iload_n 3, 1), (76, .istore_n 1, 1), (77, .aload_n 0, 1), (78, .getfield 42, 3), (81, .iload_n 3, 1), (82, .iaload, 1), (83, .istore_n 2, 1), (84, .iinc 3 1, 3), (87, .goto (-81), 3), (90, .iload_n 1, 1), (91, .ireturn, 1)]
theorem da_cX4_kindOfMostWins_0 : dk_all cX4_kindOfMostWins dt_cX4_kindOfMostWins_0 = true := by decide +kernel
theorem dX4_kindOfMostWins_0 : decode cX4_kindOfMostWins 0 = .ok (.iconst (-1), 1) := dk_get _ da_cX4_kindOfMostWins_0 0 _ _ _ rfl
theorem dX4_kindOfMostWins_1 : decode cX4_kindOfMostWins 1 = .ok (.istore_n 1, 1) := dk_get _ da_cX4_kindOfMostWins_0 1 _ _ _ rfl
theorem dX4_kindOfMostWins_2 : decode cX4_kindOfMostWins 2 = .ok (.iconst 0, 1) := dk_get _ da_cX4_kindOfMostWins_0 2 _ _ _ rfl
theorem dX4_kindOfMostWins_3 : decode cX4_kindOfMostWins 3 = .ok (.istore_n 2, 1) := dk_get _ da_cX4_kindOfMostWins_0 3 _ _ _ rfl
theorem dX4_kindOfMostWins_4 : decode cX4_kindOfMostWins 4 = .ok (.iconst 0, 1) := dk_get _ da_cX4_kindOfMostWins_0 4 _ _ _ rfl
theorem dX4_kindOfMostWins_5 : decode cX4_kindOfMostWins 5 = .ok (.istore_n 3, 1) := dk_get _ da_cX4_kindOfMostWins_0 5 _ _ _ rfl
theorem dX4_kindOfMostWins_6 : decode cX4_kindOfMostWins 6 = .ok (.iload_n 3, 1) := dk_get _ da_cX4_kindOfMostWins_0 6 _ _ _ rfl
theorem dX4_kindOfMostWins_7 : decode cX4_kindOfMostWins 7 = .ok (.aload_n 0, 1) := dk_get _ da_cX4_kindOfMostWins_0 7 _ _ _ rfl
theorem dX4_kindOfMostWins_8 : decode cX4_kindOfMostWins 8 = .ok (.getfield 12, 3) := dk_get _ da_cX4_kindOfMostWins_0 8 _ _ _ rfl
theorem dX4_kindOfMostWins_11 : decode cX4_kindOfMostWins 11 = .ok (.getfield 57, 3) := dk_get _ da_cX4_kindOfMostWins_0 9 _ _ _ rfl
theorem dX4_kindOfMostWins_14 : decode cX4_kindOfMostWins 14 = .ok (.if_icmp .ge 76, 3) := dk_get _ da_cX4_kindOfMostWins_0 10 _ _ _ rfl
theorem dX4_kindOfMostWins_17 : decode cX4_kindOfMostWins 17 = .ok (.iload_n 1, 1) := dk_get _ da_cX4_kindOfMostWins_0 11 _ _ _ rfl
theorem dX4_kindOfMostWins_18 : decode cX4_kindOfMostWins 18 = .ok (.iconst (-1), 1) := dk_get _ da_cX4_kindOfMostWins_0 12 _ _ _ rfl
theorem dX4_kindOfMostWins_19 : decode cX4_kindOfMostWins 19 = .ok (.if_icmp .eq 38, 3) := dk_get _ da_cX4_kindOfMostWins_0 13 _ _ _ rfl
theorem dX4_kindOfMostWins_22 : decode cX4_kindOfMostWins 22 = .ok (.aload_n 0, 1) := dk_get _ da_cX4_kindOfMostWins_0 14 _ _ _ rfl
theorem dX4_kindOfMostWins_23 : decode cX4_kindOfMostWins 23 = .ok (.getfield 42, 3) := dk_get _ da_cX4_kindOfMostWins_0 15 _ _ _ rfl
theorem dX4_kindOfMostWins_26 : decode cX4_kindOfMostWins 26 = .ok (.iload_n 3, 1) := dk_get _ da_cX4_kindOfMostWins_0 16 _ _ _ rfl
theorem dX4_kindOfMostWins_27 : decode cX4_kindOfMostWins 27 = .ok (.iaload, 1) := dk_get _ da_cX4_kindOfMostWins_0 17 _ _ _ rfl
theorem dX4_kindOfMostWins_28 : decode cX4_kindOfMostWins 28 = .ok (.iload_n 2, 1) := dk_get _ da_cX4_kindOfMostWins_0 18 _ _ _ rfl
theorem dX4_kindOfMostWins_29 : decode cX4_kindOfMostWins 29 = .ok (.if_icmp .ne 28, 3) := dk_get _ da_cX4_kindOfMostWins_0 19 _ _ _ rfl
theorem dX4_kindOfMostWins_32 : decode cX4_kindOfMostWins 32 = .ok (.aload_n 0, 1) := dk_get _ da_cX4_kindOfMostWins_0 20 _ _ _ rfl
theorem dX4_kindOfMostWins_33 : decode cX4_kindOfMostWins 33 = .ok (.getfield 12, 3) := dk_get _ da_cX4_kindOfMostWins_0 21 _ _ _ rfl
theorem dX4_kindOfMostWins_36 : decode cX4_kindOfMostWins 36 = .ok (.getfield 110, 3) := dk_get _ da_cX4_kindOfMostWins_0 22 _ _ _ rfl
theorem dX4_kindOfMostWins_39 : decode cX4_kindOfMostWins 39 = .ok (.iload_n 3, 1) := dk_get _ da_cX4_kindOfMostWins_0 23 _ _ _ rfl
theorem dX4_kindOfMostWins_40 : decode cX4_kindOfMostWins 40 = .ok (.iaload, 1) := dk_get _ da_cX4_kindOfMostWins_0 24 _ _ _ rfl
theorem dX4_kindOfMostWins_41 : decode cX4_kindOfMostWins 41 = .ok (.aload_n 0, 1) := dk_get _ da_cX4_kindOfMostWins_0 25 _ _ _ rfl
theorem dX4_kindOfMostWins_42 : decode cX4_kindOfMostWins 42 = .ok (.getfield 12, 3) := dk_get _ da_cX4_kindOfMostWins_0 26 _ _ _ rfl
theorem dX4_kindOfMostWins_45 : decode cX4_kindOfMostWins 45 = .ok (.getfield 110, 3) := dk_get _ da_cX4_kindOfMostWins_0 27 _ _ _ rfl
theorem dX4_kindOfMostWins_48 : decode cX4_kindOfMostWins 48 = .ok (.iload_n 1, 1) := dk_get _ da_cX4_kindOfMostWins_0 28 _ _ _ rfl
theorem dX4_kindOfMostWins_49 : decode cX4_kindOfMostWins 49 = .ok (.iaload, 1) := dk_get _ da_cX4_kindOfMostWins_0 29 _ _ _ rfl
theorem dX4_kindOfMostWins_50 : decode cX4_kindOfMostWins 50 = .ok (.if_icmp .ge 7, 3) := dk_get _ da_cX4_kindOfMostWins_0 30 _ _ _ rfl
theorem dX4_kindOfMostWins_53 : decode cX4_kindOfMostWins 53 = .ok (.iconst 1, 1) := dk_get _ da_cX4_kindOfMostWins_0 31 _ _ _ rfl
theorem dX4_kindOfMostWins_54 : decode cX4_kindOfMostWins 54 = .ok (.goto 4, 3) := dk_get _ da_cX4_kindOfMostWins_0 32 _ _ _ rfl
theorem dX4_kindOfMostWins_57 : decode cX4_kindOfMostWins 57 = .ok (.iconst 0, 1) := dk_get _ da_cX4_kindOfMostWins_0 33 _ _ _ rfl
theorem dX4_kindOfMostWins_58 : decode cX4_kindOfMostWins 58 = .ok (.istore 4, 2) := dk_get _ da_cX4_kindOfMostWins_0 34 _ _ _ rfl
theorem dX4_kindOfMostWins_60 : decode cX4_kindOfMostWins 60 = .ok (.aload_n 0, 1) := dk_get _ da_cX4_kindOfMostWins_0 35 _ _ _ rfl
theorem dX4_kindOfMostWins_61 : decode cX4_kindOfMostWins 61 = .ok (.getfield 42, 3) := dk_get _ da_cX4_kindOfMostWins_0 36 _ _ _ rfl
theorem dX4_kindOfMostWins_64 : decode cX4_kindOfMostWins 64 = .ok (.iload_n 3, 1) := dk_get _ da_cX4_kindOfMostWins_0 37 _ _ _ rfl
theorem dX4_kindOfMostWins_65 : decode cX4_kindOfMostWins 65 = .ok (.iaload, 1) := dk_get _ da_cX4_kindOfMostWins_0 38 _ _ _ rfl
theorem dX4_kindOfMostWins_66 : decode cX4_kindOfMostWins 66 = .ok (.iload_n 2, 1) := dk_get _ da_cX4_kindOfMostWins_0 39 _ _ _ rfl
theorem dX4_kindOfMostWins_67 : decode cX4_kindOfMostWins 67 = .ok (.if_icmp .gt 8, 3) := dk_get _ da_cX4_kindOfMostWins_0 40 _ _ _ rfl
theorem dX4_kindOfMostWins_70 : decode cX4_kindOfMostWins 70 = .ok (.iload 4, 2) := dk_get _ da_cX4_kindOfMostWins_0 41 _ _ _ rfl
theorem dX4_kindOfMostWins_72 : decode cX4_kindOfMostWins 72 = .ok (.ifCond .eq 12, 3) := dk_get _ da_cX4_kindOfMostWins_0 42 _ _ _ rfl
theorem dX4_kindOfMostWins_75 : decode cX4_kindOfMostWins 75 = .ok (.iload_n 3, 1) := dk_get _ da_cX4_kindOfMostWins_0 43 _ _ _ rfl
theorem dX4_kindOfMostWins_76 : decode cX4_kindOfMostWins 76 = .ok (.istore_n 1, 1) := dk_get _ da_cX4_kindOfMostWins_0 44 _ _ _ rfl
theorem dX4_kindOfMostWins_77 : decode cX4_kindOfMostWins 77 = .ok (.aload_n 0, 1) := dk_get _ da_cX4_kindOfMostWins_0 45 _ _ _ rfl
theorem dX4_kindOfMostWins_78 : decode cX4_kindOfMostWins 78 = .ok (.getfield 42, 3) := dk_get _ da_cX4_kindOfMostWins_0 46 _ _ _ rfl
theorem dX4_kindOfMostWins_81 : decode cX4_kindOfMostWins 81 = .ok (.iload_n 3, 1) := dk_get _ da_cX4_kindOfMostWins_0 47 _ _ _ rfl
theorem dX4_kindOfMostWins_82 : decode cX4_kindOfMostWins 82 = .ok (.iaload, 1) := dk_get _ da_cX4_kindOfMostWins_0 48 _ _ _ rfl
theorem dX4_kindOfMostWins_83 : decode cX4_kindOfMostWins 83 = .ok (.istore_n 2, 1) := dk_get _ da_cX4_kindOfMostWins_0 49 _ _ _ rfl
theorem dX4_kindOfMostWins_84 : decode cX4_kindOfMostWins 84 = .ok (.iinc 3 1, 3) := dk_get _ da_cX4_kindOfMostWins_0 50 _ _ _ rfl
theorem dX4_kindOfMostWins_87 : decode cX4_kindOfMostWins 87 = .ok (.goto (-81), 3) := dk_get _ da_cX4_kindOfMostWins_0 51 _ _ _ rfl
theorem dX4_kindOfMostWins_90 : decode cX4_kindOfMostWins 90 = .ok (.iload_n 1, 1) := dk_get _ da_cX4_kindOfMostWins_0 52 _ _ _ rfl
theorem dX4_kindOfMostWins_91 : decode cX4_kindOfMostWins 91 = .ok (.ireturn, 1) := dk_get _ da_cX4_kindOfMostWins_0 53 _ _ _ rfl

