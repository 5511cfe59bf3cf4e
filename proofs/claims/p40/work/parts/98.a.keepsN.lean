abbrev cX5_keeps : ByteArray := prog_7_method_23_code
def yX5_keeps : MethodName := ⟨RX5, "keeps", "()V"⟩
abbrev cX5_others : ByteArray := prog_7_method_24_code
def yX5_others : MethodName := ⟨RX5, "others", "()I"⟩
abbrev cX5_set : ByteArray := prog_7_method_25_code
def yX5_set : MethodName := ⟨RX5, "set", "(II)I"⟩
abbrev cX5_fill : ByteArray := prog_7_method_26_code
def yX5_fill : MethodName := ⟨RX5, "fill", "(III)I"⟩
abbrev cX5_exchanges : ByteArray := prog_7_method_27_code
def yX5_exchanges : MethodName := ⟨RX5, "exchanges", "(II)V"⟩
abbrev cX5_turn : ByteArray := prog_7_method_28_code
def yX5_turn : MethodName := ⟨RX5, "turn", "(II)I"⟩
abbrev cX5_swap : ByteArray := prog_7_method_29_code
def yX5_swap : MethodName := ⟨RX5, "swap", "(II)I"⟩
def wsX5_keeps_r1 : List Cond := [Cond.fieldLink RX5 13 "MajorityIndexModel" "slots" "I", Cond.fieldLink RX5 101 "MajorityIndexModel" "nodes" "I", Cond.fieldLink RX5 47 "MajorityIndexModel" "wasMany" "[I", Cond.fieldLink RX5 17 "MajorityIndexModel" "many" "[I", Cond.fieldLink RX5 50 "MajorityIndexModel" "wasLoss" "[I", Cond.fieldLink RX5 20 "MajorityIndexModel" "loss" "[I", Cond.fieldLink RX5 53 "MajorityIndexModel" "wasValue" "[I", Cond.fieldLink RX5 26 "MajorityIndexModel" "voteValue" "[I", Cond.fieldLink RX5 56 "MajorityIndexModel" "wasNumber" "[I", Cond.fieldLink RX5 29 "MajorityIndexModel" "voteNumber" "[I", Cond.methodLink RX5 124 yX5_laysAll, Cond.instanceMethod yX5_laysAll, Cond.selects RX5 yX5_laysAll yX5_laysAll, Cond.initialized RX5, Cond.code yX5_laysAll cX5_laysAll 2 none, Cond.fieldLink RX5 84 "MajorityIndexModel" "n" "I", Cond.methodLink RX5 107 yX5_lays, Cond.instanceMethod yX5_lays, Cond.selects RX5 yX5_lays yX5_lays, Cond.code yX5_lays cX5_lays 8 (some .int), Cond.fieldLink RX5 38 "MajorityIndexModel" "nodeL" "[I", Cond.fieldLink RX5 41 "MajorityIndexModel" "nodeR" "[I", Cond.fieldLink RX5 7 "MajorityIndexModel" "row" "[I", Cond.methodLink RX5 104 yX5_one]
def wsX5_keeps_r2 : List Cond := [Cond.instanceMethod yX5_one, Cond.selects RX5 yX5_one yX5_one, Cond.code yX5_one cX5_one 3 none, Cond.fieldLink RX5 23 "MajorityIndexModel" "less" "[I", Cond.methodLink RX5 111 yX5_together, Cond.instanceMethod yX5_together, Cond.selects RX5 yX5_together yX5_together, Cond.code yX5_together cX5_together 9 none, Cond.fieldLink RX5 87 "MajorityIndexModel" "allMany" "I", Cond.fieldLink RX5 35 "MajorityIndexModel" "allNumber" "[I", Cond.fieldLink RX5 32 "MajorityIndexModel" "allValue" "[I", Cond.methodLink RX5 94 yX5_adds, Cond.instanceMethod yX5_adds, Cond.selects RX5 yX5_adds yX5_adds, Cond.code yX5_adds cX5_adds 4 none, Cond.methodLink RX5 98 yX5_sorts, Cond.instanceMethod yX5_sorts, Cond.selects RX5 yX5_sorts yX5_sorts, Cond.code yX5_sorts cX5_sorts 4 none, Cond.methodLink RX5 90 yX5_isAhead, Cond.instanceMethod yX5_isAhead, Cond.selects RX5 yX5_isAhead yX5_isAhead, Cond.code yX5_isAhead cX5_isAhead 3 (some .boolean)]
def wsX5_keeps : List Cond := .code yX5_keeps cX5_keeps 3 none :: ((wsX5_keeps_r1 ++ wsX5_keeps_r2) ++ wsX50)
def wsX5_others_r1 : List Cond := [Cond.fieldLink RX5 13 "MajorityIndexModel" "slots" "I", Cond.fieldLink RX5 101 "MajorityIndexModel" "nodes" "I", Cond.fieldLink RX5 17 "MajorityIndexModel" "many" "[I", Cond.fieldLink RX5 47 "MajorityIndexModel" "wasMany" "[I", Cond.fieldLink RX5 20 "MajorityIndexModel" "loss" "[I", Cond.fieldLink RX5 50 "MajorityIndexModel" "wasLoss" "[I", Cond.fieldLink RX5 26 "MajorityIndexModel" "voteValue" "[I", Cond.fieldLink RX5 53 "MajorityIndexModel" "wasValue" "[I", Cond.fieldLink RX5 29 "MajorityIndexModel" "voteNumber" "[I", Cond.fieldLink RX5 56 "MajorityIndexModel" "wasNumber" "[I", Cond.methodLink RX5 124 yX5_laysAll, Cond.instanceMethod yX5_laysAll, Cond.selects RX5 yX5_laysAll yX5_laysAll, Cond.initialized RX5, Cond.code yX5_laysAll cX5_laysAll 2 none, Cond.fieldLink RX5 84 "MajorityIndexModel" "n" "I", Cond.methodLink RX5 107 yX5_lays, Cond.instanceMethod yX5_lays, Cond.selects RX5 yX5_lays yX5_lays, Cond.code yX5_lays cX5_lays 8 (some .int), Cond.fieldLink RX5 38 "MajorityIndexModel" "nodeL" "[I", Cond.fieldLink RX5 41 "MajorityIndexModel" "nodeR" "[I", Cond.fieldLink RX5 7 "MajorityIndexModel" "row" "[I", Cond.methodLink RX5 104 yX5_one]
def wsX5_others_r2 : List Cond := [Cond.instanceMethod yX5_one, Cond.selects RX5 yX5_one yX5_one, Cond.code yX5_one cX5_one 3 none, Cond.fieldLink RX5 23 "MajorityIndexModel" "less" "[I", Cond.methodLink RX5 111 yX5_together, Cond.instanceMethod yX5_together, Cond.selects RX5 yX5_together yX5_together, Cond.code yX5_together cX5_together 9 none, Cond.fieldLink RX5 87 "MajorityIndexModel" "allMany" "I", Cond.fieldLink RX5 35 "MajorityIndexModel" "allNumber" "[I", Cond.fieldLink RX5 32 "MajorityIndexModel" "allValue" "[I", Cond.methodLink RX5 94 yX5_adds, Cond.instanceMethod yX5_adds, Cond.selects RX5 yX5_adds yX5_adds, Cond.code yX5_adds cX5_adds 4 none, Cond.methodLink RX5 98 yX5_sorts, Cond.instanceMethod yX5_sorts, Cond.selects RX5 yX5_sorts yX5_sorts, Cond.code yX5_sorts cX5_sorts 4 none, Cond.methodLink RX5 90 yX5_isAhead, Cond.instanceMethod yX5_isAhead, Cond.selects RX5 yX5_isAhead yX5_isAhead, Cond.code yX5_isAhead cX5_isAhead 3 (some .boolean)]
def wsX5_others : List Cond := .code yX5_others cX5_others 5 (some .int) :: ((wsX5_others_r1 ++ wsX5_others_r2) ++ wsX50)
def wsX5_set_r1 : List Cond := [Cond.fieldLink RX5 77 "MajorityIndexModel" "thrown" "I", Cond.fieldLink RX5 7 "MajorityIndexModel" "row" "[I", Cond.methodLink RX5 128 yX5_isPlace, Cond.instanceMethod yX5_isPlace, Cond.selects RX5 yX5_isPlace yX5_isPlace, Cond.initialized RX5, Cond.code yX5_isPlace cX5_isPlace 2 (some .boolean), Cond.fieldLink RX5 84 "MajorityIndexModel" "n" "I", Cond.methodLink RX5 80 yX5_within, Cond.static yX5_within, Cond.code yX5_within cX5_within 3 (some .boolean), Cond.methodLink RX5 132 yX5_isValue, Cond.static yX5_isValue, Cond.code yX5_isValue cX5_isValue 1 (some .boolean), Cond.methodLink RX5 135 yX5_keeps, Cond.instanceMethod yX5_keeps, Cond.selects RX5 yX5_keeps yX5_keeps, Cond.code yX5_keeps cX5_keeps 3 none, Cond.fieldLink RX5 13 "MajorityIndexModel" "slots" "I", Cond.fieldLink RX5 101 "MajorityIndexModel" "nodes" "I", Cond.fieldLink RX5 47 "MajorityIndexModel" "wasMany" "[I", Cond.fieldLink RX5 17 "MajorityIndexModel" "many" "[I", Cond.fieldLink RX5 50 "MajorityIndexModel" "wasLoss" "[I", Cond.fieldLink RX5 20 "MajorityIndexModel" "loss" "[I"]
def wsX5_set_r2 : List Cond := [Cond.fieldLink RX5 53 "MajorityIndexModel" "wasValue" "[I", Cond.fieldLink RX5 26 "MajorityIndexModel" "voteValue" "[I", Cond.fieldLink RX5 56 "MajorityIndexModel" "wasNumber" "[I", Cond.fieldLink RX5 29 "MajorityIndexModel" "voteNumber" "[I", Cond.methodLink RX5 124 yX5_laysAll, Cond.instanceMethod yX5_laysAll, Cond.selects RX5 yX5_laysAll yX5_laysAll, Cond.code yX5_laysAll cX5_laysAll 2 none, Cond.methodLink RX5 107 yX5_lays, Cond.instanceMethod yX5_lays, Cond.selects RX5 yX5_lays yX5_lays, Cond.code yX5_lays cX5_lays 8 (some .int), Cond.fieldLink RX5 38 "MajorityIndexModel" "nodeL" "[I", Cond.fieldLink RX5 41 "MajorityIndexModel" "nodeR" "[I", Cond.methodLink RX5 104 yX5_one, Cond.instanceMethod yX5_one, Cond.selects RX5 yX5_one yX5_one, Cond.code yX5_one cX5_one 3 none, Cond.fieldLink RX5 23 "MajorityIndexModel" "less" "[I", Cond.methodLink RX5 111 yX5_together, Cond.instanceMethod yX5_together, Cond.selects RX5 yX5_together yX5_together, Cond.code yX5_together cX5_together 9 none, Cond.fieldLink RX5 87 "MajorityIndexModel" "allMany" "I"]
def wsX5_set_r3 : List Cond := [Cond.fieldLink RX5 35 "MajorityIndexModel" "allNumber" "[I", Cond.fieldLink RX5 32 "MajorityIndexModel" "allValue" "[I", Cond.methodLink RX5 94 yX5_adds, Cond.instanceMethod yX5_adds, Cond.selects RX5 yX5_adds yX5_adds, Cond.code yX5_adds cX5_adds 4 none, Cond.methodLink RX5 98 yX5_sorts, Cond.instanceMethod yX5_sorts, Cond.selects RX5 yX5_sorts yX5_sorts, Cond.code yX5_sorts cX5_sorts 4 none, Cond.methodLink RX5 90 yX5_isAhead, Cond.instanceMethod yX5_isAhead, Cond.selects RX5 yX5_isAhead yX5_isAhead, Cond.code yX5_isAhead cX5_isAhead 3 (some .boolean), Cond.methodLink RX5 138 yX5_others, Cond.instanceMethod yX5_others, Cond.selects RX5 yX5_others yX5_others, Cond.code yX5_others cX5_others 5 (some .int)]
def wsX5_set : List Cond := .code yX5_set cX5_set 3 (some .int) :: ((wsX5_set_r1 ++ (wsX5_set_r2 ++ wsX5_set_r3)) ++ wsX50)
def wsX5_fill_r1 : List Cond := [Cond.fieldLink RX5 77 "MajorityIndexModel" "thrown" "I", Cond.fieldLink RX5 7 "MajorityIndexModel" "row" "[I", Cond.methodLink RX5 142 yX5_isRange, Cond.instanceMethod yX5_isRange, Cond.selects RX5 yX5_isRange yX5_isRange, Cond.initialized RX5, Cond.code yX5_isRange cX5_isRange 3 (some .boolean), Cond.fieldLink RX5 84 "MajorityIndexModel" "n" "I", Cond.methodLink RX5 132 yX5_isValue, Cond.static yX5_isValue, Cond.code yX5_isValue cX5_isValue 1 (some .boolean), Cond.methodLink RX5 80 yX5_within, Cond.static yX5_within, Cond.code yX5_within cX5_within 3 (some .boolean), Cond.methodLink RX5 135 yX5_keeps, Cond.instanceMethod yX5_keeps, Cond.selects RX5 yX5_keeps yX5_keeps, Cond.code yX5_keeps cX5_keeps 3 none, Cond.fieldLink RX5 13 "MajorityIndexModel" "slots" "I", Cond.fieldLink RX5 101 "MajorityIndexModel" "nodes" "I", Cond.fieldLink RX5 47 "MajorityIndexModel" "wasMany" "[I", Cond.fieldLink RX5 17 "MajorityIndexModel" "many" "[I", Cond.fieldLink RX5 50 "MajorityIndexModel" "wasLoss" "[I", Cond.fieldLink RX5 20 "MajorityIndexModel" "loss" "[I"]
def wsX5_fill_r2 : List Cond := [Cond.fieldLink RX5 53 "MajorityIndexModel" "wasValue" "[I", Cond.fieldLink RX5 26 "MajorityIndexModel" "voteValue" "[I", Cond.fieldLink RX5 56 "MajorityIndexModel" "wasNumber" "[I", Cond.fieldLink RX5 29 "MajorityIndexModel" "voteNumber" "[I", Cond.methodLink RX5 124 yX5_laysAll, Cond.instanceMethod yX5_laysAll, Cond.selects RX5 yX5_laysAll yX5_laysAll, Cond.code yX5_laysAll cX5_laysAll 2 none, Cond.methodLink RX5 107 yX5_lays, Cond.instanceMethod yX5_lays, Cond.selects RX5 yX5_lays yX5_lays, Cond.code yX5_lays cX5_lays 8 (some .int), Cond.fieldLink RX5 38 "MajorityIndexModel" "nodeL" "[I", Cond.fieldLink RX5 41 "MajorityIndexModel" "nodeR" "[I", Cond.methodLink RX5 104 yX5_one, Cond.instanceMethod yX5_one, Cond.selects RX5 yX5_one yX5_one, Cond.code yX5_one cX5_one 3 none, Cond.fieldLink RX5 23 "MajorityIndexModel" "less" "[I", Cond.methodLink RX5 111 yX5_together, Cond.instanceMethod yX5_together, Cond.selects RX5 yX5_together yX5_together, Cond.code yX5_together cX5_together 9 none, Cond.fieldLink RX5 87 "MajorityIndexModel" "allMany" "I"]
def wsX5_fill_r3 : List Cond := [Cond.fieldLink RX5 35 "MajorityIndexModel" "allNumber" "[I", Cond.fieldLink RX5 32 "MajorityIndexModel" "allValue" "[I", Cond.methodLink RX5 94 yX5_adds, Cond.instanceMethod yX5_adds, Cond.selects RX5 yX5_adds yX5_adds, Cond.code yX5_adds cX5_adds 4 none, Cond.methodLink RX5 98 yX5_sorts, Cond.instanceMethod yX5_sorts, Cond.selects RX5 yX5_sorts yX5_sorts, Cond.code yX5_sorts cX5_sorts 4 none, Cond.methodLink RX5 90 yX5_isAhead, Cond.instanceMethod yX5_isAhead, Cond.selects RX5 yX5_isAhead yX5_isAhead, Cond.code yX5_isAhead cX5_isAhead 3 (some .boolean), Cond.methodLink RX5 138 yX5_others, Cond.instanceMethod yX5_others, Cond.selects RX5 yX5_others yX5_others, Cond.code yX5_others cX5_others 5 (some .int)]
def wsX5_fill : List Cond := .code yX5_fill cX5_fill 5 (some .int) :: ((wsX5_fill_r1 ++ (wsX5_fill_r2 ++ wsX5_fill_r3)) ++ wsX50)
def wsX5_exchanges : List Cond := .code yX5_exchanges cX5_exchanges 4 none :: ([.fieldLink RX5 7 "MajorityIndexModel" "row" "[I"] ++ wsX50)
def wsX5_turn_r1 : List Cond := [Cond.fieldLink RX5 77 "MajorityIndexModel" "thrown" "I", Cond.methodLink RX5 142 yX5_isRange, Cond.instanceMethod yX5_isRange, Cond.selects RX5 yX5_isRange yX5_isRange, Cond.initialized RX5, Cond.code yX5_isRange cX5_isRange 3 (some .boolean), Cond.fieldLink RX5 84 "MajorityIndexModel" "n" "I", Cond.methodLink RX5 135 yX5_keeps, Cond.instanceMethod yX5_keeps, Cond.selects RX5 yX5_keeps yX5_keeps, Cond.code yX5_keeps cX5_keeps 3 none, Cond.fieldLink RX5 13 "MajorityIndexModel" "slots" "I", Cond.fieldLink RX5 101 "MajorityIndexModel" "nodes" "I", Cond.fieldLink RX5 47 "MajorityIndexModel" "wasMany" "[I", Cond.fieldLink RX5 17 "MajorityIndexModel" "many" "[I", Cond.fieldLink RX5 50 "MajorityIndexModel" "wasLoss" "[I", Cond.fieldLink RX5 20 "MajorityIndexModel" "loss" "[I", Cond.fieldLink RX5 53 "MajorityIndexModel" "wasValue" "[I", Cond.fieldLink RX5 26 "MajorityIndexModel" "voteValue" "[I", Cond.fieldLink RX5 56 "MajorityIndexModel" "wasNumber" "[I", Cond.fieldLink RX5 29 "MajorityIndexModel" "voteNumber" "[I", Cond.methodLink RX5 124 yX5_laysAll, Cond.instanceMethod yX5_laysAll, Cond.selects RX5 yX5_laysAll yX5_laysAll]
def wsX5_turn_r2 : List Cond := [Cond.code yX5_laysAll cX5_laysAll 2 none, Cond.methodLink RX5 107 yX5_lays, Cond.instanceMethod yX5_lays, Cond.selects RX5 yX5_lays yX5_lays, Cond.code yX5_lays cX5_lays 8 (some .int), Cond.fieldLink RX5 38 "MajorityIndexModel" "nodeL" "[I", Cond.fieldLink RX5 41 "MajorityIndexModel" "nodeR" "[I", Cond.fieldLink RX5 7 "MajorityIndexModel" "row" "[I", Cond.methodLink RX5 104 yX5_one, Cond.instanceMethod yX5_one, Cond.selects RX5 yX5_one yX5_one, Cond.code yX5_one cX5_one 3 none, Cond.fieldLink RX5 23 "MajorityIndexModel" "less" "[I", Cond.methodLink RX5 111 yX5_together, Cond.instanceMethod yX5_together, Cond.selects RX5 yX5_together yX5_together, Cond.code yX5_together cX5_together 9 none, Cond.fieldLink RX5 87 "MajorityIndexModel" "allMany" "I", Cond.fieldLink RX5 35 "MajorityIndexModel" "allNumber" "[I", Cond.fieldLink RX5 32 "MajorityIndexModel" "allValue" "[I", Cond.methodLink RX5 94 yX5_adds, Cond.instanceMethod yX5_adds, Cond.selects RX5 yX5_adds yX5_adds, Cond.code yX5_adds cX5_adds 4 none]
def wsX5_turn_r3 : List Cond := [Cond.methodLink RX5 98 yX5_sorts, Cond.instanceMethod yX5_sorts, Cond.selects RX5 yX5_sorts yX5_sorts, Cond.code yX5_sorts cX5_sorts 4 none, Cond.methodLink RX5 90 yX5_isAhead, Cond.instanceMethod yX5_isAhead, Cond.selects RX5 yX5_isAhead yX5_isAhead, Cond.code yX5_isAhead cX5_isAhead 3 (some .boolean), Cond.methodLink RX5 145 yX5_exchanges, Cond.instanceMethod yX5_exchanges, Cond.selects RX5 yX5_exchanges yX5_exchanges, Cond.code yX5_exchanges cX5_exchanges 4 none, Cond.methodLink RX5 138 yX5_others, Cond.instanceMethod yX5_others, Cond.selects RX5 yX5_others yX5_others, Cond.code yX5_others cX5_others 5 (some .int)]
def wsX5_turn : List Cond := .code yX5_turn cX5_turn 4 (some .int) :: ((wsX5_turn_r1 ++ (wsX5_turn_r2 ++ wsX5_turn_r3)) ++ wsX50)
def wsX5_swap_r1 : List Cond := [Cond.fieldLink RX5 77 "MajorityIndexModel" "thrown" "I", Cond.methodLink RX5 128 yX5_isPlace, Cond.instanceMethod yX5_isPlace, Cond.selects RX5 yX5_isPlace yX5_isPlace, Cond.initialized RX5, Cond.code yX5_isPlace cX5_isPlace 2 (some .boolean), Cond.fieldLink RX5 84 "MajorityIndexModel" "n" "I", Cond.methodLink RX5 80 yX5_within, Cond.static yX5_within, Cond.code yX5_within cX5_within 3 (some .boolean), Cond.methodLink RX5 135 yX5_keeps, Cond.instanceMethod yX5_keeps, Cond.selects RX5 yX5_keeps yX5_keeps, Cond.code yX5_keeps cX5_keeps 3 none, Cond.fieldLink RX5 13 "MajorityIndexModel" "slots" "I", Cond.fieldLink RX5 101 "MajorityIndexModel" "nodes" "I", Cond.fieldLink RX5 47 "MajorityIndexModel" "wasMany" "[I", Cond.fieldLink RX5 17 "MajorityIndexModel" "many" "[I", Cond.fieldLink RX5 50 "MajorityIndexModel" "wasLoss" "[I", Cond.fieldLink RX5 20 "MajorityIndexModel" "loss" "[I", Cond.fieldLink RX5 53 "MajorityIndexModel" "wasValue" "[I", Cond.fieldLink RX5 26 "MajorityIndexModel" "voteValue" "[I", Cond.fieldLink RX5 56 "MajorityIndexModel" "wasNumber" "[I", Cond.fieldLink RX5 29 "MajorityIndexModel" "voteNumber" "[I"]
def wsX5_swap_r2 : List Cond := [Cond.methodLink RX5 124 yX5_laysAll, Cond.instanceMethod yX5_laysAll, Cond.selects RX5 yX5_laysAll yX5_laysAll, Cond.code yX5_laysAll cX5_laysAll 2 none, Cond.methodLink RX5 107 yX5_lays, Cond.instanceMethod yX5_lays, Cond.selects RX5 yX5_lays yX5_lays, Cond.code yX5_lays cX5_lays 8 (some .int), Cond.fieldLink RX5 38 "MajorityIndexModel" "nodeL" "[I", Cond.fieldLink RX5 41 "MajorityIndexModel" "nodeR" "[I", Cond.fieldLink RX5 7 "MajorityIndexModel" "row" "[I", Cond.methodLink RX5 104 yX5_one, Cond.instanceMethod yX5_one, Cond.selects RX5 yX5_one yX5_one, Cond.code yX5_one cX5_one 3 none, Cond.fieldLink RX5 23 "MajorityIndexModel" "less" "[I", Cond.methodLink RX5 111 yX5_together, Cond.instanceMethod yX5_together, Cond.selects RX5 yX5_together yX5_together, Cond.code yX5_together cX5_together 9 none, Cond.fieldLink RX5 87 "MajorityIndexModel" "allMany" "I", Cond.fieldLink RX5 35 "MajorityIndexModel" "allNumber" "[I", Cond.fieldLink RX5 32 "MajorityIndexModel" "allValue" "[I", Cond.methodLink RX5 94 yX5_adds]
def wsX5_swap_r3 : List Cond := [Cond.instanceMethod yX5_adds, Cond.selects RX5 yX5_adds yX5_adds, Cond.code yX5_adds cX5_adds 4 none, Cond.methodLink RX5 98 yX5_sorts, Cond.instanceMethod yX5_sorts, Cond.selects RX5 yX5_sorts yX5_sorts, Cond.code yX5_sorts cX5_sorts 4 none, Cond.methodLink RX5 90 yX5_isAhead, Cond.instanceMethod yX5_isAhead, Cond.selects RX5 yX5_isAhead yX5_isAhead, Cond.code yX5_isAhead cX5_isAhead 3 (some .boolean), Cond.methodLink RX5 145 yX5_exchanges, Cond.instanceMethod yX5_exchanges, Cond.selects RX5 yX5_exchanges yX5_exchanges, Cond.code yX5_exchanges cX5_exchanges 4 none, Cond.methodLink RX5 138 yX5_others, Cond.instanceMethod yX5_others, Cond.selects RX5 yX5_others yX5_others, Cond.code yX5_others cX5_others 5 (some .int)]
def wsX5_swap : List Cond := .code yX5_swap cX5_swap 3 (some .int) :: ((wsX5_swap_r1 ++ (wsX5_swap_r2 ++ wsX5_swap_r3)) ++ wsX50)
theorem mi_wsX5_keeps_wsX5_keeps_r1 : ∀ w ∈ wsX5_keeps_r1, w ∈ wsX5_keeps := fun _ h => (List.mem_cons_of_mem _ (List.mem_append_left _ (List.mem_append_left _ h)))
theorem mi_wsX5_keeps_wsX5_keeps_r2 : ∀ w ∈ wsX5_keeps_r2, w ∈ wsX5_keeps := fun _ h => (List.mem_cons_of_mem _ (List.mem_append_left _ (List.mem_append_right _ h)))
theorem mi_wsX5_keeps_wsX50 : ∀ w ∈ wsX50, w ∈ wsX5_keeps := fun _ h => (List.mem_cons_of_mem _ (List.mem_append_right _ h))
set_option maxRecDepth 20000 in
theorem ggX5_keeps_X5_laysAll : GoodIn wsX5_keeps wsX5_laysAll := goodIn_m _ [(wsX5_keeps_r1, [false, false, false, false, false, false, false, false, false, false, false, false, false, false, true]), (wsX5_keeps_r1, [false, true, false, false, false, false, false, false, false, false, false, false, false, false, false, true, true, true, true]), (wsX5_keeps_r1, [false, false, false, false, false, false, false, false, false, false, false, false, false, true, false, false, false, false, false, true, true, true, true, true]), (wsX5_keeps_r2, [true, true, true]), (wsX5_keeps_r1, [false, false, false, true, false, true]), (wsX5_keeps_r2, [false, false, false, true]), (wsX5_keeps_r1, [false, false, false, false, false, false, false, true, false, true]), (wsX5_keeps_r2, [false, false, false, false, true, true, true, true, true, true, true, true, true, true, true, true, true, true, true, true, true, true, true]), (wsX50, [true, true, true, true, true, true, true, true, true, true, true, true, true, true, true, true, true, true, true, true, true, true, true, true, true, true, true, true, true, true])] (gm_c mi_wsX5_keeps_wsX5_keeps_r1 (gm_c mi_wsX5_keeps_wsX5_keeps_r1 (gm_c mi_wsX5_keeps_wsX5_keeps_r1 (gm_c mi_wsX5_keeps_wsX5_keeps_r2 (gm_c mi_wsX5_keeps_wsX5_keeps_r1 (gm_c mi_wsX5_keeps_wsX5_keeps_r2 (gm_c mi_wsX5_keeps_wsX5_keeps_r1 (gm_c mi_wsX5_keeps_wsX5_keeps_r2 (gm_c mi_wsX5_keeps_wsX50 gm_n))))))))) rfl (by decide +kernel)
set_option maxRecDepth 20000 in
theorem gX5_keeps_X5_laysAll : GoodIn wsX5_keeps (wsV RX5 124 RX5 yX5_laysAll wsX5_laysAll) := goodIn_app (goodIn_m _ [(wsX5_keeps_r1, [false, false, false, false, false, false, false, false, false, false, true, true, true, true])] (gm_c mi_wsX5_keeps_wsX5_keeps_r1 gm_n) rfl (by decide +kernel)) ggX5_keeps_X5_laysAll
def dt_cX5_keeps_0 : List (Nat × Nat × Nat × Nat) := [(0, 42, 0, 0), (1, 42, 0, 0), (2, 180, 2, 13), (5, 182, 2, 124), (8, 3, 0, 0), (9, 60, 0, 0), (10, 27, 0, 0), (11, 42, 0, 0), (12, 180, 2, 101), (15, 162, 2, 95), (18, 42, 0, 0), (19, 180, 2, 47), (22, 27, 0, 0), (23, 42, 0, 0), (24, 180, 2, 17), (27, 27, 0, 0), (28, 46, 0, 0), (29, 79, 0, 0), (30, 42, 0, 0), (31, 180, 2, 50)]
theorem da_cX5_keeps_0 : fw dt_cX5_keeps_0 0 cX5_keeps.data.toList = true := by decide +kernel
theorem dX5_keeps_0 : decode cX5_keeps 0 = .ok (.aload_n 0, 1) := fo_42 (fw_get da_cX5_keeps_0 0 rfl)
theorem dX5_keeps_1 : decode cX5_keeps 1 = .ok (.aload_n 0, 1) := fo_42 (fw_get da_cX5_keeps_0 1 rfl)
theorem dX5_keeps_2 : decode cX5_keeps 2 = .ok (.getfield 13, 3) := fo_180 (fw_get da_cX5_keeps_0 2 rfl)
theorem dX5_keeps_5 : decode cX5_keeps 5 = .ok (.invokevirtual 124, 3) := fo_182 (fw_get da_cX5_keeps_0 3 rfl)
theorem dX5_keeps_8 : decode cX5_keeps 8 = .ok (.iconst 0, 1) := fo_3 (fw_get da_cX5_keeps_0 4 rfl)
theorem dX5_keeps_9 : decode cX5_keeps 9 = .ok (.istore_n 1, 1) := fo_60 (fw_get da_cX5_keeps_0 5 rfl)
theorem dX5_keeps_10 : decode cX5_keeps 10 = .ok (.iload_n 1, 1) := fo_27 (fw_get da_cX5_keeps_0 6 rfl)
theorem dX5_keeps_11 : decode cX5_keeps 11 = .ok (.aload_n 0, 1) := fo_42 (fw_get da_cX5_keeps_0 7 rfl)
theorem dX5_keeps_12 : decode cX5_keeps 12 = .ok (.getfield 101, 3) := fo_180 (fw_get da_cX5_keeps_0 8 rfl)
theorem dX5_keeps_15 : decode cX5_keeps 15 = .ok (.if_icmp .ge 95, 3) := fo_162 (fw_get da_cX5_keeps_0 9 rfl) (by decide +kernel)
theorem dX5_keeps_18 : decode cX5_keeps 18 = .ok (.aload_n 0, 1) := fo_42 (fw_get da_cX5_keeps_0 10 rfl)
theorem dX5_keeps_19 : decode cX5_keeps 19 = .ok (.getfield 47, 3) := fo_180 (fw_get da_cX5_keeps_0 11 rfl)
theorem dX5_keeps_22 : decode cX5_keeps 22 = .ok (.iload_n 1, 1) := fo_27 (fw_get da_cX5_keeps_0 12 rfl)
theorem dX5_keeps_23 : decode cX5_keeps 23 = .ok (.aload_n 0, 1) := fo_42 (fw_get da_cX5_keeps_0 13 rfl)
theorem dX5_keeps_24 : decode cX5_keeps 24 = .ok (.getfield 17, 3) := fo_180 (fw_get da_cX5_keeps_0 14 rfl)
theorem dX5_keeps_27 : decode cX5_keeps 27 = .ok (.iload_n 1, 1) := fo_27 (fw_get da_cX5_keeps_0 15 rfl)
theorem dX5_keeps_28 : decode cX5_keeps 28 = .ok (.iaload, 1) := fo_46 (fw_get da_cX5_keeps_0 16 rfl)
theorem dX5_keeps_29 : decode cX5_keeps 29 = .ok (.iastore, 1) := fo_79 (fw_get da_cX5_keeps_0 17 rfl)
theorem dX5_keeps_30 : decode cX5_keeps 30 = .ok (.aload_n 0, 1) := fo_42 (fw_get da_cX5_keeps_0 18 rfl)
theorem dX5_keeps_31 : decode cX5_keeps 31 = .ok (.getfield 50, 3) := fo_180 (fw_get da_cX5_keeps_0 19 rfl)
def dt_cX5_keeps_1 : List (Nat × Nat × Nat × Nat) := [(34, 27, 0, 0), (35, 42, 0, 0), (36, 180, 2, 20), (39, 27, 0, 0), (40, 46, 0, 0), (41, 79, 0, 0), (42, 3, 0, 0), (43, 61, 0, 0), (44, 28, 0, 0), (45, 42, 0, 0), (46, 180, 2, 17), (49, 27, 0, 0), (50, 46, 0, 0), (51, 162, 2, 53), (54, 42, 0, 0), (55, 180, 2, 53), (58, 16, 1, 6), (60, 27, 0, 0), (61, 104, 0, 0), (62, 28, 0, 0)]
theorem da_cX5_keeps_1 : fw dt_cX5_keeps_1 0 cX5_keeps.data.toList = true := by decide +kernel
theorem dX5_keeps_34 : decode cX5_keeps 34 = .ok (.iload_n 1, 1) := fo_27 (fw_get da_cX5_keeps_1 0 rfl)
theorem dX5_keeps_35 : decode cX5_keeps 35 = .ok (.aload_n 0, 1) := fo_42 (fw_get da_cX5_keeps_1 1 rfl)
theorem dX5_keeps_36 : decode cX5_keeps 36 = .ok (.getfield 20, 3) := fo_180 (fw_get da_cX5_keeps_1 2 rfl)
theorem dX5_keeps_39 : decode cX5_keeps 39 = .ok (.iload_n 1, 1) := fo_27 (fw_get da_cX5_keeps_1 3 rfl)
theorem dX5_keeps_40 : decode cX5_keeps 40 = .ok (.iaload, 1) := fo_46 (fw_get da_cX5_keeps_1 4 rfl)
theorem dX5_keeps_41 : decode cX5_keeps 41 = .ok (.iastore, 1) := fo_79 (fw_get da_cX5_keeps_1 5 rfl)
theorem dX5_keeps_42 : decode cX5_keeps 42 = .ok (.iconst 0, 1) := fo_3 (fw_get da_cX5_keeps_1 6 rfl)
theorem dX5_keeps_43 : decode cX5_keeps 43 = .ok (.istore_n 2, 1) := fo_61 (fw_get da_cX5_keeps_1 7 rfl)
theorem dX5_keeps_44 : decode cX5_keeps 44 = .ok (.iload_n 2, 1) := fo_28 (fw_get da_cX5_keeps_1 8 rfl)
theorem dX5_keeps_45 : decode cX5_keeps 45 = .ok (.aload_n 0, 1) := fo_42 (fw_get da_cX5_keeps_1 9 rfl)
theorem dX5_keeps_46 : decode cX5_keeps 46 = .ok (.getfield 17, 3) := fo_180 (fw_get da_cX5_keeps_1 10 rfl)
theorem dX5_keeps_49 : decode cX5_keeps 49 = .ok (.iload_n 1, 1) := fo_27 (fw_get da_cX5_keeps_1 11 rfl)
theorem dX5_keeps_50 : decode cX5_keeps 50 = .ok (.iaload, 1) := fo_46 (fw_get da_cX5_keeps_1 12 rfl)
theorem dX5_keeps_51 : decode cX5_keeps 51 = .ok (.if_icmp .ge 53, 3) := fo_162 (fw_get da_cX5_keeps_1 13 rfl) (by decide +kernel)
theorem dX5_keeps_54 : decode cX5_keeps 54 = .ok (.aload_n 0, 1) := fo_42 (fw_get da_cX5_keeps_1 14 rfl)
theorem dX5_keeps_55 : decode cX5_keeps 55 = .ok (.getfield 53, 3) := fo_180 (fw_get da_cX5_keeps_1 15 rfl)
theorem dX5_keeps_58 : decode cX5_keeps 58 = .ok (.bipush 6, 2) := fo_16 (fw_get da_cX5_keeps_1 16 rfl) (by decide +kernel)
theorem dX5_keeps_60 : decode cX5_keeps 60 = .ok (.iload_n 1, 1) := fo_27 (fw_get da_cX5_keeps_1 17 rfl)
theorem dX5_keeps_61 : decode cX5_keeps 61 = .ok (.imul, 1) := fo_104 (fw_get da_cX5_keeps_1 18 rfl)
theorem dX5_keeps_62 : decode cX5_keeps 62 = .ok (.iload_n 2, 1) := fo_28 (fw_get da_cX5_keeps_1 19 rfl)
def dt_cX5_keeps_2 : List (Nat × Nat × Nat × Nat) := [(63, 96, 0, 0), (64, 42, 0, 0), (65, 180, 2, 26), (68, 16, 1, 6), (70, 27, 0, 0), (71, 104, 0, 0), (72, 28, 0, 0), (73, 96, 0, 0), (74, 46, 0, 0), (75, 79, 0, 0), (76, 42, 0, 0), (77, 180, 2, 56), (80, 16, 1, 6), (82, 27, 0, 0), (83, 104, 0, 0), (84, 28, 0, 0), (85, 96, 0, 0), (86, 42, 0, 0), (87, 180, 2, 29), (90, 16, 1, 6)]
theorem da_cX5_keeps_2 : fw dt_cX5_keeps_2 0 cX5_keeps.data.toList = true := by decide +kernel
theorem dX5_keeps_63 : decode cX5_keeps 63 = .ok (.iadd, 1) := fo_96 (fw_get da_cX5_keeps_2 0 rfl)
theorem dX5_keeps_64 : decode cX5_keeps 64 = .ok (.aload_n 0, 1) := fo_42 (fw_get da_cX5_keeps_2 1 rfl)
theorem dX5_keeps_65 : decode cX5_keeps 65 = .ok (.getfield 26, 3) := fo_180 (fw_get da_cX5_keeps_2 2 rfl)
theorem dX5_keeps_68 : decode cX5_keeps 68 = .ok (.bipush 6, 2) := fo_16 (fw_get da_cX5_keeps_2 3 rfl) (by decide +kernel)
theorem dX5_keeps_70 : decode cX5_keeps 70 = .ok (.iload_n 1, 1) := fo_27 (fw_get da_cX5_keeps_2 4 rfl)
theorem dX5_keeps_71 : decode cX5_keeps 71 = .ok (.imul, 1) := fo_104 (fw_get da_cX5_keeps_2 5 rfl)
theorem dX5_keeps_72 : decode cX5_keeps 72 = .ok (.iload_n 2, 1) := fo_28 (fw_get da_cX5_keeps_2 6 rfl)
theorem dX5_keeps_73 : decode cX5_keeps 73 = .ok (.iadd, 1) := fo_96 (fw_get da_cX5_keeps_2 7 rfl)
theorem dX5_keeps_74 : decode cX5_keeps 74 = .ok (.iaload, 1) := fo_46 (fw_get da_cX5_keeps_2 8 rfl)
theorem dX5_keeps_75 : decode cX5_keeps 75 = .ok (.iastore, 1) := fo_79 (fw_get da_cX5_keeps_2 9 rfl)
theorem dX5_keeps_76 : decode cX5_keeps 76 = .ok (.aload_n 0, 1) := fo_42 (fw_get da_cX5_keeps_2 10 rfl)
theorem dX5_keeps_77 : decode cX5_keeps 77 = .ok (.getfield 56, 3) := fo_180 (fw_get da_cX5_keeps_2 11 rfl)
theorem dX5_keeps_80 : decode cX5_keeps 80 = .ok (.bipush 6, 2) := fo_16 (fw_get da_cX5_keeps_2 12 rfl) (by decide +kernel)
theorem dX5_keeps_82 : decode cX5_keeps 82 = .ok (.iload_n 1, 1) := fo_27 (fw_get da_cX5_keeps_2 13 rfl)
theorem dX5_keeps_83 : decode cX5_keeps 83 = .ok (.imul, 1) := fo_104 (fw_get da_cX5_keeps_2 14 rfl)
theorem dX5_keeps_84 : decode cX5_keeps 84 = .ok (.iload_n 2, 1) := fo_28 (fw_get da_cX5_keeps_2 15 rfl)
theorem dX5_keeps_85 : decode cX5_keeps 85 = .ok (.iadd, 1) := fo_96 (fw_get da_cX5_keeps_2 16 rfl)
theorem dX5_keeps_86 : decode cX5_keeps 86 = .ok (.aload_n 0, 1) := fo_42 (fw_get da_cX5_keeps_2 17 rfl)
theorem dX5_keeps_87 : decode cX5_keeps 87 = .ok (.getfield 29, 3) := fo_180 (fw_get da_cX5_keeps_2 18 rfl)
theorem dX5_keeps_90 : decode cX5_keeps 90 = .ok (.bipush 6, 2) := fo_16 (fw_get da_cX5_keeps_2 19 rfl) (by decide +kernel)
def dt_cX5_keeps_3 : List (Nat × Nat × Nat × Nat) := [(92, 27, 0, 0), (93, 104, 0, 0), (94, 28, 0, 0), (95, 96, 0, 0), (96, 46, 0, 0), (97, 79, 0, 0), (98, 132, 2, 513), (101, 167, 2, 65479), (104, 132, 2, 257), (107, 167, 2, 65439), (110, 177, 0, 0)]
theorem da_cX5_keeps_3 : fw dt_cX5_keeps_3 0 cX5_keeps.data.toList = true := by decide +kernel
theorem dX5_keeps_92 : decode cX5_keeps 92 = .ok (.iload_n 1, 1) := fo_27 (fw_get da_cX5_keeps_3 0 rfl)
theorem dX5_keeps_93 : decode cX5_keeps 93 = .ok (.imul, 1) := fo_104 (fw_get da_cX5_keeps_3 1 rfl)
theorem dX5_keeps_94 : decode cX5_keeps 94 = .ok (.iload_n 2, 1) := fo_28 (fw_get da_cX5_keeps_3 2 rfl)
theorem dX5_keeps_95 : decode cX5_keeps 95 = .ok (.iadd, 1) := fo_96 (fw_get da_cX5_keeps_3 3 rfl)
theorem dX5_keeps_96 : decode cX5_keeps 96 = .ok (.iaload, 1) := fo_46 (fw_get da_cX5_keeps_3 4 rfl)
theorem dX5_keeps_97 : decode cX5_keeps 97 = .ok (.iastore, 1) := fo_79 (fw_get da_cX5_keeps_3 5 rfl)
theorem dX5_keeps_98 : decode cX5_keeps 98 = .ok (.iinc 2 1, 3) := fo_132 (fw_get da_cX5_keeps_3 6 rfl) rfl (by decide +kernel)
theorem dX5_keeps_101 : decode cX5_keeps 101 = .ok (.goto (-57), 3) := fo_167 (fw_get da_cX5_keeps_3 7 rfl) (by decide +kernel)
theorem dX5_keeps_104 : decode cX5_keeps 104 = .ok (.iinc 1 1, 3) := fo_132 (fw_get da_cX5_keeps_3 8 rfl) rfl (by decide +kernel)
theorem dX5_keeps_107 : decode cX5_keeps 107 = .ok (.goto (-97), 3) := fo_167 (fw_get da_cX5_keeps_3 9 rfl) (by decide +kernel)
theorem dX5_keeps_110 : decode cX5_keeps 110 = .ok (.return_, 1) := fo_177 (fw_get da_cX5_keeps_3 10 rfl)
theorem mi_wsX5_others_wsX5_others_r1 : ∀ w ∈ wsX5_others_r1, w ∈ wsX5_others := fun _ h => (List.mem_cons_of_mem _ (List.mem_append_left _ (List.mem_append_left _ h)))
theorem mi_wsX5_others_wsX5_others_r2 : ∀ w ∈ wsX5_others_r2, w ∈ wsX5_others := fun _ h => (List.mem_cons_of_mem _ (List.mem_append_left _ (List.mem_append_right _ h)))
theorem mi_wsX5_others_wsX50 : ∀ w ∈ wsX50, w ∈ wsX5_others := fun _ h => (List.mem_cons_of_mem _ (List.mem_append_right _ h))
set_option maxRecDepth 20000 in
theorem ggX5_others_X5_laysAll : GoodIn wsX5_others wsX5_laysAll := goodIn_m _ [(wsX5_others_r1, [false, false, false, false, false, false, false, false, false, false, false, false, false, false, true]), (wsX5_others_r1, [false, true, false, false, false, false, false, false, false, false, false, false, false, false, false, true, true, true, true]), (wsX5_others_r1, [false, false, false, false, false, false, false, false, false, false, false, false, false, true, false, false, false, false, false, true, true, true, true, true]), (wsX5_others_r2, [true, true, true]), (wsX5_others_r1, [false, false, true, false, true]), (wsX5_others_r2, [false, false, false, true]), (wsX5_others_r1, [false, false, false, false, false, false, true, false, true]), (wsX5_others_r2, [false, false, false, false, true, true, true, true, true, true, true, true, true, true, true, true, true, true, true, true, true, true, true]), (wsX50, [true, true, true, true, true, true, true, true, true, true, true, true, true, true, true, true, true, true, true, true, true, true, true, true, true, true, true, true, true, true])] (gm_c mi_wsX5_others_wsX5_others_r1 (gm_c mi_wsX5_others_wsX5_others_r1 (gm_c mi_wsX5_others_wsX5_others_r1 (gm_c mi_wsX5_others_wsX5_others_r2 (gm_c mi_wsX5_others_wsX5_others_r1 (gm_c mi_wsX5_others_wsX5_others_r2 (gm_c mi_wsX5_others_wsX5_others_r1 (gm_c mi_wsX5_others_wsX5_others_r2 (gm_c mi_wsX5_others_wsX50 gm_n))))))))) rfl (by decide +kernel)
set_option maxRecDepth 20000 in
theorem gX5_others_X5_laysAll : GoodIn wsX5_others (wsV RX5 124 RX5 yX5_laysAll wsX5_laysAll) := goodIn_app (goodIn_m _ [(wsX5_others_r1, [false, false, false, false, false, false, false, false, false, false, true, true, true, true])] (gm_c mi_wsX5_others_wsX5_others_r1 gm_n) rfl (by decide +kernel)) ggX5_others_X5_laysAll
def dt_cX5_others_0 : List (Nat × Nat × Nat × Nat) := [(0, 42, 0, 0), (1, 42, 0, 0), (2, 180, 2, 13), (5, 182, 2, 124), (8, 3, 0, 0), (9, 60, 0, 0), (10, 3, 0, 0), (11, 61, 0, 0), (12, 28, 0, 0), (13, 42, 0, 0), (14, 180, 2, 101), (17, 162, 2, 141), (20, 42, 0, 0), (21, 180, 2, 17), (24, 28, 0, 0), (25, 46, 0, 0), (26, 42, 0, 0), (27, 180, 2, 47), (30, 28, 0, 0), (31, 46, 0, 0)]
theorem da_cX5_others_0 : fw dt_cX5_others_0 0 cX5_others.data.toList = true := by decide +kernel
theorem dX5_others_0 : decode cX5_others 0 = .ok (.aload_n 0, 1) := fo_42 (fw_get da_cX5_others_0 0 rfl)
theorem dX5_others_1 : decode cX5_others 1 = .ok (.aload_n 0, 1) := fo_42 (fw_get da_cX5_others_0 1 rfl)
theorem dX5_others_2 : decode cX5_others 2 = .ok (.getfield 13, 3) := fo_180 (fw_get da_cX5_others_0 2 rfl)
theorem dX5_others_5 : decode cX5_others 5 = .ok (.invokevirtual 124, 3) := fo_182 (fw_get da_cX5_others_0 3 rfl)
theorem dX5_others_8 : decode cX5_others 8 = .ok (.iconst 0, 1) := fo_3 (fw_get da_cX5_others_0 4 rfl)
theorem dX5_others_9 : decode cX5_others 9 = .ok (.istore_n 1, 1) := fo_60 (fw_get da_cX5_others_0 5 rfl)
theorem dX5_others_10 : decode cX5_others 10 = .ok (.iconst 0, 1) := fo_3 (fw_get da_cX5_others_0 6 rfl)
theorem dX5_others_11 : decode cX5_others 11 = .ok (.istore_n 2, 1) := fo_61 (fw_get da_cX5_others_0 7 rfl)
theorem dX5_others_12 : decode cX5_others 12 = .ok (.iload_n 2, 1) := fo_28 (fw_get da_cX5_others_0 8 rfl)
theorem dX5_others_13 : decode cX5_others 13 = .ok (.aload_n 0, 1) := fo_42 (fw_get da_cX5_others_0 9 rfl)
theorem dX5_others_14 : decode cX5_others 14 = .ok (.getfield 101, 3) := fo_180 (fw_get da_cX5_others_0 10 rfl)
theorem dX5_others_17 : decode cX5_others 17 = .ok (.if_icmp .ge 141, 3) := fo_162 (fw_get da_cX5_others_0 11 rfl) (by decide +kernel)
theorem dX5_others_20 : decode cX5_others 20 = .ok (.aload_n 0, 1) := fo_42 (fw_get da_cX5_others_0 12 rfl)
theorem dX5_others_21 : decode cX5_others 21 = .ok (.getfield 17, 3) := fo_180 (fw_get da_cX5_others_0 13 rfl)
theorem dX5_others_24 : decode cX5_others 24 = .ok (.iload_n 2, 1) := fo_28 (fw_get da_cX5_others_0 14 rfl)
theorem dX5_others_25 : decode cX5_others 25 = .ok (.iaload, 1) := fo_46 (fw_get da_cX5_others_0 15 rfl)
theorem dX5_others_26 : decode cX5_others 26 = .ok (.aload_n 0, 1) := fo_42 (fw_get da_cX5_others_0 16 rfl)
theorem dX5_others_27 : decode cX5_others 27 = .ok (.getfield 47, 3) := fo_180 (fw_get da_cX5_others_0 17 rfl)
theorem dX5_others_30 : decode cX5_others 30 = .ok (.iload_n 2, 1) := fo_28 (fw_get da_cX5_others_0 18 rfl)
theorem dX5_others_31 : decode cX5_others 31 = .ok (.iaload, 1) := fo_46 (fw_get da_cX5_others_0 19 rfl)
def dt_cX5_others_1 : List (Nat × Nat × Nat × Nat) := [(32, 160, 2, 22), (35, 42, 0, 0), (36, 180, 2, 20), (39, 28, 0, 0), (40, 46, 0, 0), (41, 42, 0, 0), (42, 180, 2, 50), (45, 28, 0, 0), (46, 46, 0, 0), (47, 160, 2, 7), (50, 4, 0, 0), (51, 167, 2, 4), (54, 3, 0, 0), (55, 62, 0, 0), (56, 3, 0, 0), (57, 54, 1, 4), (59, 21, 1, 4), (61, 42, 0, 0), (62, 180, 2, 17), (65, 28, 0, 0)]
theorem da_cX5_others_1 : fw dt_cX5_others_1 0 cX5_others.data.toList = true := by decide +kernel
theorem dX5_others_32 : decode cX5_others 32 = .ok (.if_icmp .ne 22, 3) := fo_160 (fw_get da_cX5_others_1 0 rfl) (by decide +kernel)
theorem dX5_others_35 : decode cX5_others 35 = .ok (.aload_n 0, 1) := fo_42 (fw_get da_cX5_others_1 1 rfl)
theorem dX5_others_36 : decode cX5_others 36 = .ok (.getfield 20, 3) := fo_180 (fw_get da_cX5_others_1 2 rfl)
theorem dX5_others_39 : decode cX5_others 39 = .ok (.iload_n 2, 1) := fo_28 (fw_get da_cX5_others_1 3 rfl)
theorem dX5_others_40 : decode cX5_others 40 = .ok (.iaload, 1) := fo_46 (fw_get da_cX5_others_1 4 rfl)
theorem dX5_others_41 : decode cX5_others 41 = .ok (.aload_n 0, 1) := fo_42 (fw_get da_cX5_others_1 5 rfl)
theorem dX5_others_42 : decode cX5_others 42 = .ok (.getfield 50, 3) := fo_180 (fw_get da_cX5_others_1 6 rfl)
theorem dX5_others_45 : decode cX5_others 45 = .ok (.iload_n 2, 1) := fo_28 (fw_get da_cX5_others_1 7 rfl)
theorem dX5_others_46 : decode cX5_others 46 = .ok (.iaload, 1) := fo_46 (fw_get da_cX5_others_1 8 rfl)
theorem dX5_others_47 : decode cX5_others 47 = .ok (.if_icmp .ne 7, 3) := fo_160 (fw_get da_cX5_others_1 9 rfl) (by decide +kernel)
theorem dX5_others_50 : decode cX5_others 50 = .ok (.iconst 1, 1) := fo_4 (fw_get da_cX5_others_1 10 rfl)
theorem dX5_others_51 : decode cX5_others 51 = .ok (.goto 4, 3) := fo_167 (fw_get da_cX5_others_1 11 rfl) (by decide +kernel)
theorem dX5_others_54 : decode cX5_others 54 = .ok (.iconst 0, 1) := fo_3 (fw_get da_cX5_others_1 12 rfl)
theorem dX5_others_55 : decode cX5_others 55 = .ok (.istore_n 3, 1) := fo_62 (fw_get da_cX5_others_1 13 rfl)
theorem dX5_others_56 : decode cX5_others 56 = .ok (.iconst 0, 1) := fo_3 (fw_get da_cX5_others_1 14 rfl)
theorem dX5_others_57 : decode cX5_others 57 = .ok (.istore 4, 2) := fo_54 (fw_get da_cX5_others_1 15 rfl)
theorem dX5_others_59 : decode cX5_others 59 = .ok (.iload 4, 2) := fo_21 (fw_get da_cX5_others_1 16 rfl)
theorem dX5_others_61 : decode cX5_others 61 = .ok (.aload_n 0, 1) := fo_42 (fw_get da_cX5_others_1 17 rfl)
theorem dX5_others_62 : decode cX5_others 62 = .ok (.getfield 17, 3) := fo_180 (fw_get da_cX5_others_1 18 rfl)
theorem dX5_others_65 : decode cX5_others 65 = .ok (.iload_n 2, 1) := fo_28 (fw_get da_cX5_others_1 19 rfl)
def dt_cX5_others_2 : List (Nat × Nat × Nat × Nat) := [(66, 46, 0, 0), (67, 162, 2, 73), (70, 29, 0, 0), (71, 153, 2, 69), (74, 42, 0, 0), (75, 180, 2, 26), (78, 16, 1, 6), (80, 28, 0, 0), (81, 104, 0, 0), (82, 21, 1, 4), (84, 96, 0, 0), (85, 46, 0, 0), (86, 42, 0, 0), (87, 180, 2, 53), (90, 16, 1, 6), (92, 28, 0, 0), (93, 104, 0, 0), (94, 21, 1, 4), (96, 96, 0, 0), (97, 46, 0, 0)]
theorem da_cX5_others_2 : fw dt_cX5_others_2 0 cX5_others.data.toList = true := by decide +kernel
theorem dX5_others_66 : decode cX5_others 66 = .ok (.iaload, 1) := fo_46 (fw_get da_cX5_others_2 0 rfl)
theorem dX5_others_67 : decode cX5_others 67 = .ok (.if_icmp .ge 73, 3) := fo_162 (fw_get da_cX5_others_2 1 rfl) (by decide +kernel)
theorem dX5_others_70 : decode cX5_others 70 = .ok (.iload_n 3, 1) := fo_29 (fw_get da_cX5_others_2 2 rfl)
theorem dX5_others_71 : decode cX5_others 71 = .ok (.ifCond .eq 69, 3) := fo_153 (fw_get da_cX5_others_2 3 rfl) (by decide +kernel)
theorem dX5_others_74 : decode cX5_others 74 = .ok (.aload_n 0, 1) := fo_42 (fw_get da_cX5_others_2 4 rfl)
theorem dX5_others_75 : decode cX5_others 75 = .ok (.getfield 26, 3) := fo_180 (fw_get da_cX5_others_2 5 rfl)
theorem dX5_others_78 : decode cX5_others 78 = .ok (.bipush 6, 2) := fo_16 (fw_get da_cX5_others_2 6 rfl) (by decide +kernel)
theorem dX5_others_80 : decode cX5_others 80 = .ok (.iload_n 2, 1) := fo_28 (fw_get da_cX5_others_2 7 rfl)
theorem dX5_others_81 : decode cX5_others 81 = .ok (.imul, 1) := fo_104 (fw_get da_cX5_others_2 8 rfl)
theorem dX5_others_82 : decode cX5_others 82 = .ok (.iload 4, 2) := fo_21 (fw_get da_cX5_others_2 9 rfl)
theorem dX5_others_84 : decode cX5_others 84 = .ok (.iadd, 1) := fo_96 (fw_get da_cX5_others_2 10 rfl)
theorem dX5_others_85 : decode cX5_others 85 = .ok (.iaload, 1) := fo_46 (fw_get da_cX5_others_2 11 rfl)
theorem dX5_others_86 : decode cX5_others 86 = .ok (.aload_n 0, 1) := fo_42 (fw_get da_cX5_others_2 12 rfl)
theorem dX5_others_87 : decode cX5_others 87 = .ok (.getfield 53, 3) := fo_180 (fw_get da_cX5_others_2 13 rfl)
theorem dX5_others_90 : decode cX5_others 90 = .ok (.bipush 6, 2) := fo_16 (fw_get da_cX5_others_2 14 rfl) (by decide +kernel)
theorem dX5_others_92 : decode cX5_others 92 = .ok (.iload_n 2, 1) := fo_28 (fw_get da_cX5_others_2 15 rfl)
theorem dX5_others_93 : decode cX5_others 93 = .ok (.imul, 1) := fo_104 (fw_get da_cX5_others_2 16 rfl)
theorem dX5_others_94 : decode cX5_others 94 = .ok (.iload 4, 2) := fo_21 (fw_get da_cX5_others_2 17 rfl)
theorem dX5_others_96 : decode cX5_others 96 = .ok (.iadd, 1) := fo_96 (fw_get da_cX5_others_2 18 rfl)
theorem dX5_others_97 : decode cX5_others 97 = .ok (.iaload, 1) := fo_46 (fw_get da_cX5_others_2 19 rfl)
def dt_cX5_others_3 : List (Nat × Nat × Nat × Nat) := [(98, 160, 2, 34), (101, 42, 0, 0), (102, 180, 2, 29), (105, 16, 1, 6), (107, 28, 0, 0), (108, 104, 0, 0), (109, 21, 1, 4), (111, 96, 0, 0), (112, 46, 0, 0), (113, 42, 0, 0), (114, 180, 2, 56), (117, 16, 1, 6), (119, 28, 0, 0), (120, 104, 0, 0), (121, 21, 1, 4), (123, 96, 0, 0), (124, 46, 0, 0), (125, 160, 2, 7), (128, 4, 0, 0), (129, 167, 2, 4)]
theorem da_cX5_others_3 : fw dt_cX5_others_3 0 cX5_others.data.toList = true := by decide +kernel
theorem dX5_others_98 : decode cX5_others 98 = .ok (.if_icmp .ne 34, 3) := fo_160 (fw_get da_cX5_others_3 0 rfl) (by decide +kernel)
theorem dX5_others_101 : decode cX5_others 101 = .ok (.aload_n 0, 1) := fo_42 (fw_get da_cX5_others_3 1 rfl)
theorem dX5_others_102 : decode cX5_others 102 = .ok (.getfield 29, 3) := fo_180 (fw_get da_cX5_others_3 2 rfl)
theorem dX5_others_105 : decode cX5_others 105 = .ok (.bipush 6, 2) := fo_16 (fw_get da_cX5_others_3 3 rfl) (by decide +kernel)
theorem dX5_others_107 : decode cX5_others 107 = .ok (.iload_n 2, 1) := fo_28 (fw_get da_cX5_others_3 4 rfl)
theorem dX5_others_108 : decode cX5_others 108 = .ok (.imul, 1) := fo_104 (fw_get da_cX5_others_3 5 rfl)
theorem dX5_others_109 : decode cX5_others 109 = .ok (.iload 4, 2) := fo_21 (fw_get da_cX5_others_3 6 rfl)
theorem dX5_others_111 : decode cX5_others 111 = .ok (.iadd, 1) := fo_96 (fw_get da_cX5_others_3 7 rfl)
theorem dX5_others_112 : decode cX5_others 112 = .ok (.iaload, 1) := fo_46 (fw_get da_cX5_others_3 8 rfl)
theorem dX5_others_113 : decode cX5_others 113 = .ok (.aload_n 0, 1) := fo_42 (fw_get da_cX5_others_3 9 rfl)
theorem dX5_others_114 : decode cX5_others 114 = .ok (.getfield 56, 3) := fo_180 (fw_get da_cX5_others_3 10 rfl)
theorem dX5_others_117 : decode cX5_others 117 = .ok (.bipush 6, 2) := fo_16 (fw_get da_cX5_others_3 11 rfl) (by decide +kernel)
theorem dX5_others_119 : decode cX5_others 119 = .ok (.iload_n 2, 1) := fo_28 (fw_get da_cX5_others_3 12 rfl)
theorem dX5_others_120 : decode cX5_others 120 = .ok (.imul, 1) := fo_104 (fw_get da_cX5_others_3 13 rfl)
theorem dX5_others_121 : decode cX5_others 121 = .ok (.iload 4, 2) := fo_21 (fw_get da_cX5_others_3 14 rfl)
theorem dX5_others_123 : decode cX5_others 123 = .ok (.iadd, 1) := fo_96 (fw_get da_cX5_others_3 15 rfl)
theorem dX5_others_124 : decode cX5_others 124 = .ok (.iaload, 1) := fo_46 (fw_get da_cX5_others_3 16 rfl)
theorem dX5_others_125 : decode cX5_others 125 = .ok (.if_icmp .ne 7, 3) := fo_160 (fw_get da_cX5_others_3 17 rfl) (by decide +kernel)
theorem dX5_others_128 : decode cX5_others 128 = .ok (.iconst 1, 1) := fo_4 (fw_get da_cX5_others_3 18 rfl)
theorem dX5_others_129 : decode cX5_others 129 = .ok (.goto 4, 3) := fo_167 (fw_get da_cX5_others_3 19 rfl) (by decide +kernel)
def dt_cX5_others_4 : List (Nat × Nat × Nat × Nat) := [(132, 3, 0, 0), (133, 62, 0, 0), (134, 132, 2, 1025), (137, 167, 2, 65458), (140, 27, 0, 0), (141, 29, 0, 0), (142, 153, 2, 7), (145, 3, 0, 0), (146, 167, 2, 4), (149, 4, 0, 0), (150, 96, 0, 0), (151, 60, 0, 0), (152, 132, 2, 513), (155, 167, 2, 65393), (158, 27, 0, 0), (159, 172, 0, 0)]
theorem da_cX5_others_4 : fw dt_cX5_others_4 0 cX5_others.data.toList = true := by decide +kernel
theorem dX5_others_132 : decode cX5_others 132 = .ok (.iconst 0, 1) := fo_3 (fw_get da_cX5_others_4 0 rfl)
theorem dX5_others_133 : decode cX5_others 133 = .ok (.istore_n 3, 1) := fo_62 (fw_get da_cX5_others_4 1 rfl)
theorem dX5_others_134 : decode cX5_others 134 = .ok (.iinc 4 1, 3) := fo_132 (fw_get da_cX5_others_4 2 rfl) rfl (by decide +kernel)
theorem dX5_others_137 : decode cX5_others 137 = .ok (.goto (-78), 3) := fo_167 (fw_get da_cX5_others_4 3 rfl) (by decide +kernel)
theorem dX5_others_140 : decode cX5_others 140 = .ok (.iload_n 1, 1) := fo_27 (fw_get da_cX5_others_4 4 rfl)
theorem dX5_others_141 : decode cX5_others 141 = .ok (.iload_n 3, 1) := fo_29 (fw_get da_cX5_others_4 5 rfl)
theorem dX5_others_142 : decode cX5_others 142 = .ok (.ifCond .eq 7, 3) := fo_153 (fw_get da_cX5_others_4 6 rfl) (by decide +kernel)
theorem dX5_others_145 : decode cX5_others 145 = .ok (.iconst 0, 1) := fo_3 (fw_get da_cX5_others_4 7 rfl)
theorem dX5_others_146 : decode cX5_others 146 = .ok (.goto 4, 3) := fo_167 (fw_get da_cX5_others_4 8 rfl) (by decide +kernel)
theorem dX5_others_149 : decode cX5_others 149 = .ok (.iconst 1, 1) := fo_4 (fw_get da_cX5_others_4 9 rfl)
theorem dX5_others_150 : decode cX5_others 150 = .ok (.iadd, 1) := fo_96 (fw_get da_cX5_others_4 10 rfl)
theorem dX5_others_151 : decode cX5_others 151 = .ok (.istore_n 1, 1) := fo_60 (fw_get da_cX5_others_4 11 rfl)
theorem dX5_others_152 : decode cX5_others 152 = .ok (.iinc 2 1, 3) := fo_132 (fw_get da_cX5_others_4 12 rfl) rfl (by decide +kernel)
theorem dX5_others_155 : decode cX5_others 155 = .ok (.goto (-143), 3) := fo_167 (fw_get da_cX5_others_4 13 rfl) (by decide +kernel)
theorem dX5_others_158 : decode cX5_others 158 = .ok (.iload_n 1, 1) := fo_27 (fw_get da_cX5_others_4 14 rfl)
theorem dX5_others_159 : decode cX5_others 159 = .ok (.ireturn, 1) := fo_172 (fw_get da_cX5_others_4 15 rfl)
theorem mi_wsX5_set_wsX5_set_r1 : ∀ w ∈ wsX5_set_r1, w ∈ wsX5_set := fun _ h => (List.mem_cons_of_mem _ (List.mem_append_left _ (List.mem_append_left _ h)))
theorem mi_wsX5_set_wsX50 : ∀ w ∈ wsX50, w ∈ wsX5_set := fun _ h => (List.mem_cons_of_mem _ (List.mem_append_right _ h))
set_option maxRecDepth 20000 in
theorem ggX5_set_X5_isPlace : GoodIn wsX5_set wsX5_isPlace := goodIn_m _ [(wsX5_set_r1, [false, false, false, false, false, false, true, true, true, true]), (wsX5_set_r1, [false, false, false, false, false, true, false, false, false, false, true]), (wsX50, [true, true, true, true, true, true, true, true, true, true, true, true, true, true, true, true, true, true, true, true, true, true, true, true, true, true, true, true, true, true])] (gm_c mi_wsX5_set_wsX5_set_r1 (gm_c mi_wsX5_set_wsX5_set_r1 (gm_c mi_wsX5_set_wsX50 gm_n))) rfl (by decide +kernel)
set_option maxRecDepth 20000 in
theorem gX5_set_X5_isPlace : GoodIn wsX5_set (wsV RX5 128 RX5 yX5_isPlace wsX5_isPlace) := goodIn_app (goodIn_m _ [(wsX5_set_r1, [false, false, true, true, true, true])] (gm_c mi_wsX5_set_wsX5_set_r1 gm_n) rfl (by decide +kernel)) ggX5_set_X5_isPlace
set_option maxRecDepth 20000 in
theorem ggX5_set_X5_isValue : GoodIn wsX5_set wsX5_isValue := goodIn_m _ [(wsX5_set_r1, [false, false, false, false, false, false, false, false, false, false, false, false, false, true]), (wsX5_set_r1, [false, false, false, false, false, false, false, false, true, true]), (wsX5_set_r1, [false, false, false, false, false, true, false, false, false, false, true])] (gm_c mi_wsX5_set_wsX5_set_r1 (gm_c mi_wsX5_set_wsX5_set_r1 (gm_c mi_wsX5_set_wsX5_set_r1 gm_n))) rfl (by decide +kernel)
set_option maxRecDepth 20000 in
theorem gX5_set_X5_isValue : GoodIn wsX5_set (va_wsS RX5 132 yX5_isValue wsX5_isValue) := goodIn_app (goodIn_m _ [(wsX5_set_r1, [false, false, false, false, false, false, false, false, false, false, false, true, true]), (wsX5_set_r1, [false, false, false, false, false, true])] (gm_c mi_wsX5_set_wsX5_set_r1 (gm_c mi_wsX5_set_wsX5_set_r1 gm_n)) rfl (by decide +kernel)) ggX5_set_X5_isValue
theorem mi_wsX5_set_wsX5_set_r2 : ∀ w ∈ wsX5_set_r2, w ∈ wsX5_set := fun _ h => (List.mem_cons_of_mem _ (List.mem_append_left _ (List.mem_append_right _ (List.mem_append_left _ h))))
theorem mi_wsX5_set_wsX5_set_r3 : ∀ w ∈ wsX5_set_r3, w ∈ wsX5_set := fun _ h => (List.mem_cons_of_mem _ (List.mem_append_left _ (List.mem_append_right _ (List.mem_append_right _ h))))
set_option maxRecDepth 20000 in
theorem ggX5_set_X5_keeps : GoodIn wsX5_set wsX5_keeps := goodIn_m _ [(wsX5_set_r1, [false, false, false, false, false, false, false, false, false, false, false, false, false, false, false, false, false, true, true, true, true, true, true, true]), (wsX5_set_r2, [true, true, true, true, true, true, true]), (wsX5_set_r1, [false, false, false, false, false, true]), (wsX5_set_r2, [false, false, false, false, false, false, false, true]), (wsX5_set_r1, [false, false, false, false, false, false, false, true]), (wsX5_set_r2, [false, false, false, false, false, false, false, false, true, true, true, true, true, true]), (wsX5_set_r1, [false, true]), (wsX5_set_r2, [false, false, false, false, false, false, false, false, false, false, false, false, false, false, true, true, true, true, true, true, true, true, true, true]), (wsX5_set_r3, [true, true, true, true, true, true, true, true, true, true, true, true, true, true]), (wsX50, [true, true, true, true, true, true, true, true, true, true, true, true, true, true, true, true, true, true, true, true, true, true, true, true, true, true, true, true, true, true])] (gm_c mi_wsX5_set_wsX5_set_r1 (gm_c mi_wsX5_set_wsX5_set_r2 (gm_c mi_wsX5_set_wsX5_set_r1 (gm_c mi_wsX5_set_wsX5_set_r2 (gm_c mi_wsX5_set_wsX5_set_r1 (gm_c mi_wsX5_set_wsX5_set_r2 (gm_c mi_wsX5_set_wsX5_set_r1 (gm_c mi_wsX5_set_wsX5_set_r2 (gm_c mi_wsX5_set_wsX5_set_r3 (gm_c mi_wsX5_set_wsX50 gm_n)))))))))) rfl (by decide +kernel)
set_option maxRecDepth 20000 in
theorem gX5_set_X5_keeps : GoodIn wsX5_set (wsV RX5 135 RX5 yX5_keeps wsX5_keeps) := goodIn_app (goodIn_m _ [(wsX5_set_r1, [false, false, false, false, false, false, false, false, false, false, false, false, false, false, true, true, true]), (wsX5_set_r1, [false, false, false, false, false, true])] (gm_c mi_wsX5_set_wsX5_set_r1 (gm_c mi_wsX5_set_wsX5_set_r1 gm_n)) rfl (by decide +kernel)) ggX5_set_X5_keeps
set_option maxRecDepth 20000 in
theorem ggX5_set_X5_others : GoodIn wsX5_set wsX5_others := goodIn_m _ [(wsX5_set_r3, [false, false, false, false, false, false, false, false, false, false, false, false, false, false, false, false, false, true]), (wsX5_set_r1, [false, false, false, false, false, false, false, false, false, false, false, false, false, false, false, false, false, false, true, true, false, true]), (wsX5_set_r1, [false, false, false, false, false, false, false, false, false, false, false, false, false, false, false, false, false, false, false, false, true, false, false, true]), (wsX5_set_r1, [false, false, false, false, false, false, false, false, false, false, false, false, false, false, false, false, false, false, false, false, false, false, true]), (wsX5_set_r2, [false, true]), (wsX5_set_r2, [true, false, false, true]), (wsX5_set_r2, [false, false, true, false, true, true, true]), (wsX5_set_r1, [false, false, false, false, false, true]), (wsX5_set_r2, [false, false, false, false, false, false, false, true]), (wsX5_set_r1, [false, false, false, false, false, false, false, true]), (wsX5_set_r2, [false, false, false, false, false, false, false, false, true, true, true, true, true, true]), (wsX5_set_r1, [false, true]), (wsX5_set_r2, [false, false, false, false, false, false, false, false, false, false, false, false, false, false, true, true, true, true, true, true, true, true, true, true]), (wsX5_set_r3, [true, true, true, true, true, true, true, true, true, true, true, true, true, true]), (wsX50, [true, true, true, true, true, true, true, true, true, true, true, true, true, true, true, true, true, true, true, true, true, true, true, true, true, true, true, true, true, true])] (gm_c mi_wsX5_set_wsX5_set_r3 (gm_c mi_wsX5_set_wsX5_set_r1 (gm_c mi_wsX5_set_wsX5_set_r1 (gm_c mi_wsX5_set_wsX5_set_r1 (gm_c mi_wsX5_set_wsX5_set_r2 (gm_c mi_wsX5_set_wsX5_set_r2 (gm_c mi_wsX5_set_wsX5_set_r2 (gm_c mi_wsX5_set_wsX5_set_r1 (gm_c mi_wsX5_set_wsX5_set_r2 (gm_c mi_wsX5_set_wsX5_set_r1 (gm_c mi_wsX5_set_wsX5_set_r2 (gm_c mi_wsX5_set_wsX5_set_r1 (gm_c mi_wsX5_set_wsX5_set_r2 (gm_c mi_wsX5_set_wsX5_set_r3 (gm_c mi_wsX5_set_wsX50 gm_n))))))))))))))) rfl (by decide +kernel)
set_option maxRecDepth 20000 in
theorem gX5_set_X5_others : GoodIn wsX5_set (wsV RX5 138 RX5 yX5_others wsX5_others) := goodIn_app (goodIn_m _ [(wsX5_set_r3, [false, false, false, false, false, false, false, false, false, false, false, false, false, false, true, true, true]), (wsX5_set_r1, [false, false, false, false, false, true])] (gm_c mi_wsX5_set_wsX5_set_r3 (gm_c mi_wsX5_set_wsX5_set_r1 gm_n)) rfl (by decide +kernel)) ggX5_set_X5_others
def dt_cX5_set_0 : List (Nat × Nat × Nat × Nat) := [(0, 42, 0, 0), (1, 3, 0, 0), (2, 181, 2, 77), (5, 42, 0, 0), (6, 27, 0, 0), (7, 182, 2, 128), (10, 153, 2, 10), (13, 28, 0, 0), (14, 184, 2, 132), (17, 154, 2, 5), (20, 2, 0, 0), (21, 172, 0, 0), (22, 42, 0, 0), (23, 182, 2, 135), (26, 42, 0, 0), (27, 180, 2, 7), (30, 27, 0, 0), (31, 28, 0, 0), (32, 79, 0, 0), (33, 42, 0, 0)]
theorem da_cX5_set_0 : fw dt_cX5_set_0 0 cX5_set.data.toList = true := by decide +kernel
theorem dX5_set_0 : decode cX5_set 0 = .ok (.aload_n 0, 1) := fo_42 (fw_get da_cX5_set_0 0 rfl)
theorem dX5_set_1 : decode cX5_set 1 = .ok (.iconst 0, 1) := fo_3 (fw_get da_cX5_set_0 1 rfl)
theorem dX5_set_2 : decode cX5_set 2 = .ok (.putfield 77, 3) := fo_181 (fw_get da_cX5_set_0 2 rfl)
theorem dX5_set_5 : decode cX5_set 5 = .ok (.aload_n 0, 1) := fo_42 (fw_get da_cX5_set_0 3 rfl)
theorem dX5_set_6 : decode cX5_set 6 = .ok (.iload_n 1, 1) := fo_27 (fw_get da_cX5_set_0 4 rfl)
theorem dX5_set_7 : decode cX5_set 7 = .ok (.invokevirtual 128, 3) := fo_182 (fw_get da_cX5_set_0 5 rfl)
theorem dX5_set_10 : decode cX5_set 10 = .ok (.ifCond .eq 10, 3) := fo_153 (fw_get da_cX5_set_0 6 rfl) (by decide +kernel)
theorem dX5_set_13 : decode cX5_set 13 = .ok (.iload_n 2, 1) := fo_28 (fw_get da_cX5_set_0 7 rfl)
theorem dX5_set_14 : decode cX5_set 14 = .ok (.invokestatic 132, 3) := fo_184 (fw_get da_cX5_set_0 8 rfl)
theorem dX5_set_17 : decode cX5_set 17 = .ok (.ifCond .ne 5, 3) := fo_154 (fw_get da_cX5_set_0 9 rfl) (by decide +kernel)
theorem dX5_set_20 : decode cX5_set 20 = .ok (.iconst (-1), 1) := fo_2 (fw_get da_cX5_set_0 10 rfl)
theorem dX5_set_21 : decode cX5_set 21 = .ok (.ireturn, 1) := fo_172 (fw_get da_cX5_set_0 11 rfl)
theorem dX5_set_22 : decode cX5_set 22 = .ok (.aload_n 0, 1) := fo_42 (fw_get da_cX5_set_0 12 rfl)
theorem dX5_set_23 : decode cX5_set 23 = .ok (.invokevirtual 135, 3) := fo_182 (fw_get da_cX5_set_0 13 rfl)
theorem dX5_set_26 : decode cX5_set 26 = .ok (.aload_n 0, 1) := fo_42 (fw_get da_cX5_set_0 14 rfl)
theorem dX5_set_27 : decode cX5_set 27 = .ok (.getfield 7, 3) := fo_180 (fw_get da_cX5_set_0 15 rfl)
theorem dX5_set_30 : decode cX5_set 30 = .ok (.iload_n 1, 1) := fo_27 (fw_get da_cX5_set_0 16 rfl)
theorem dX5_set_31 : decode cX5_set 31 = .ok (.iload_n 2, 1) := fo_28 (fw_get da_cX5_set_0 17 rfl)
theorem dX5_set_32 : decode cX5_set 32 = .ok (.iastore, 1) := fo_79 (fw_get da_cX5_set_0 18 rfl)
theorem dX5_set_33 : decode cX5_set 33 = .ok (.aload_n 0, 1) := fo_42 (fw_get da_cX5_set_0 19 rfl)
def dt_cX5_set_1 : List (Nat × Nat × Nat × Nat) := [(34, 182, 2, 138), (37, 172, 0, 0)]
theorem da_cX5_set_1 : fw dt_cX5_set_1 0 cX5_set.data.toList = true := by decide +kernel
theorem dX5_set_34 : decode cX5_set 34 = .ok (.invokevirtual 138, 3) := fo_182 (fw_get da_cX5_set_1 0 rfl)
theorem dX5_set_37 : decode cX5_set 37 = .ok (.ireturn, 1) := fo_172 (fw_get da_cX5_set_1 1 rfl)
theorem mi_wsX5_fill_wsX5_fill_r1 : ∀ w ∈ wsX5_fill_r1, w ∈ wsX5_fill := fun _ h => (List.mem_cons_of_mem _ (List.mem_append_left _ (List.mem_append_left _ h)))
theorem mi_wsX5_fill_wsX50 : ∀ w ∈ wsX50, w ∈ wsX5_fill := fun _ h => (List.mem_cons_of_mem _ (List.mem_append_right _ h))
set_option maxRecDepth 20000 in
theorem ggX5_fill_X5_isRange : GoodIn wsX5_fill wsX5_isRange := goodIn_m _ [(wsX5_fill_r1, [false, false, false, false, false, false, true, true]), (wsX50, [true, true, true, true, true, true, true, true, true, true, true, true, true, true, true, true, true, true, true, true, true, true, true, true, true, true, true, true, true, true])] (gm_c mi_wsX5_fill_wsX5_fill_r1 (gm_c mi_wsX5_fill_wsX50 gm_n)) rfl (by decide +kernel)
set_option maxRecDepth 20000 in
theorem gX5_fill_X5_isRange : GoodIn wsX5_fill (wsV RX5 142 RX5 yX5_isRange wsX5_isRange) := goodIn_app (goodIn_m _ [(wsX5_fill_r1, [false, false, true, true, true, true])] (gm_c mi_wsX5_fill_wsX5_fill_r1 gm_n) rfl (by decide +kernel)) ggX5_fill_X5_isRange
set_option maxRecDepth 20000 in
theorem ggX5_fill_X5_isValue : GoodIn wsX5_fill wsX5_isValue := goodIn_m _ [(wsX5_fill_r1, [false, false, false, false, false, false, false, false, false, false, true, true, true]), (wsX5_fill_r1, [false, false, false, false, false, true, false, false, false, false, false, false, false, true])] (gm_c mi_wsX5_fill_wsX5_fill_r1 (gm_c mi_wsX5_fill_wsX5_fill_r1 gm_n)) rfl (by decide +kernel)
set_option maxRecDepth 20000 in
theorem gX5_fill_X5_isValue : GoodIn wsX5_fill (va_wsS RX5 132 yX5_isValue wsX5_isValue) := goodIn_app (goodIn_m _ [(wsX5_fill_r1, [false, false, false, false, false, false, false, false, true, true]), (wsX5_fill_r1, [false, false, false, false, false, true])] (gm_c mi_wsX5_fill_wsX5_fill_r1 (gm_c mi_wsX5_fill_wsX5_fill_r1 gm_n)) rfl (by decide +kernel)) ggX5_fill_X5_isValue
theorem mi_wsX5_fill_wsX5_fill_r2 : ∀ w ∈ wsX5_fill_r2, w ∈ wsX5_fill := fun _ h => (List.mem_cons_of_mem _ (List.mem_append_left _ (List.mem_append_right _ (List.mem_append_left _ h))))
theorem mi_wsX5_fill_wsX5_fill_r3 : ∀ w ∈ wsX5_fill_r3, w ∈ wsX5_fill := fun _ h => (List.mem_cons_of_mem _ (List.mem_append_left _ (List.mem_append_right _ (List.mem_append_right _ h))))
set_option maxRecDepth 20000 in
theorem ggX5_fill_X5_keeps : GoodIn wsX5_fill wsX5_keeps := goodIn_m _ [(wsX5_fill_r1, [false, false, false, false, false, false, false, false, false, false, false, false, false, false, false, false, false, true, true, true, true, true, true, true]), (wsX5_fill_r2, [true, true, true, true, true, true, true]), (wsX5_fill_r1, [false, false, false, false, false, true]), (wsX5_fill_r2, [false, false, false, false, false, false, false, true]), (wsX5_fill_r1, [false, false, false, false, false, false, false, true]), (wsX5_fill_r2, [false, false, false, false, false, false, false, false, true, true, true, true, true, true]), (wsX5_fill_r1, [false, true]), (wsX5_fill_r2, [false, false, false, false, false, false, false, false, false, false, false, false, false, false, true, true, true, true, true, true, true, true, true, true]), (wsX5_fill_r3, [true, true, true, true, true, true, true, true, true, true, true, true, true, true]), (wsX50, [true, true, true, true, true, true, true, true, true, true, true, true, true, true, true, true, true, true, true, true, true, true, true, true, true, true, true, true, true, true])] (gm_c mi_wsX5_fill_wsX5_fill_r1 (gm_c mi_wsX5_fill_wsX5_fill_r2 (gm_c mi_wsX5_fill_wsX5_fill_r1 (gm_c mi_wsX5_fill_wsX5_fill_r2 (gm_c mi_wsX5_fill_wsX5_fill_r1 (gm_c mi_wsX5_fill_wsX5_fill_r2 (gm_c mi_wsX5_fill_wsX5_fill_r1 (gm_c mi_wsX5_fill_wsX5_fill_r2 (gm_c mi_wsX5_fill_wsX5_fill_r3 (gm_c mi_wsX5_fill_wsX50 gm_n)))))))))) rfl (by decide +kernel)
set_option maxRecDepth 20000 in
theorem gX5_fill_X5_keeps : GoodIn wsX5_fill (wsV RX5 135 RX5 yX5_keeps wsX5_keeps) := goodIn_app (goodIn_m _ [(wsX5_fill_r1, [false, false, false, false, false, false, false, false, false, false, false, false, false, false, true, true, true]), (wsX5_fill_r1, [false, false, false, false, false, true])] (gm_c mi_wsX5_fill_wsX5_fill_r1 (gm_c mi_wsX5_fill_wsX5_fill_r1 gm_n)) rfl (by decide +kernel)) ggX5_fill_X5_keeps
set_option maxRecDepth 20000 in
theorem ggX5_fill_X5_others : GoodIn wsX5_fill wsX5_others := goodIn_m _ [(wsX5_fill_r3, [false, false, false, false, false, false, false, false, false, false, false, false, false, false, false, false, false, true]), (wsX5_fill_r1, [false, false, false, false, false, false, false, false, false, false, false, false, false, false, false, false, false, false, true, true, false, true]), (wsX5_fill_r1, [false, false, false, false, false, false, false, false, false, false, false, false, false, false, false, false, false, false, false, false, true, false, false, true]), (wsX5_fill_r1, [false, false, false, false, false, false, false, false, false, false, false, false, false, false, false, false, false, false, false, false, false, false, true]), (wsX5_fill_r2, [false, true]), (wsX5_fill_r2, [true, false, false, true]), (wsX5_fill_r2, [false, false, true, false, true, true, true]), (wsX5_fill_r1, [false, false, false, false, false, true]), (wsX5_fill_r2, [false, false, false, false, false, false, false, true]), (wsX5_fill_r1, [false, false, false, false, false, false, false, true]), (wsX5_fill_r2, [false, false, false, false, false, false, false, false, true, true, true, true, true, true]), (wsX5_fill_r1, [false, true]), (wsX5_fill_r2, [false, false, false, false, false, false, false, false, false, false, false, false, false, false, true, true, true, true, true, true, true, true, true, true]), (wsX5_fill_r3, [true, true, true, true, true, true, true, true, true, true, true, true, true, true]), (wsX50, [true, true, true, true, true, true, true, true, true, true, true, true, true, true, true, true, true, true, true, true, true, true, true, true, true, true, true, true, true, true])] (gm_c mi_wsX5_fill_wsX5_fill_r3 (gm_c mi_wsX5_fill_wsX5_fill_r1 (gm_c mi_wsX5_fill_wsX5_fill_r1 (gm_c mi_wsX5_fill_wsX5_fill_r1 (gm_c mi_wsX5_fill_wsX5_fill_r2 (gm_c mi_wsX5_fill_wsX5_fill_r2 (gm_c mi_wsX5_fill_wsX5_fill_r2 (gm_c mi_wsX5_fill_wsX5_fill_r1 (gm_c mi_wsX5_fill_wsX5_fill_r2 (gm_c mi_wsX5_fill_wsX5_fill_r1 (gm_c mi_wsX5_fill_wsX5_fill_r2 (gm_c mi_wsX5_fill_wsX5_fill_r1 (gm_c mi_wsX5_fill_wsX5_fill_r2 (gm_c mi_wsX5_fill_wsX5_fill_r3 (gm_c mi_wsX5_fill_wsX50 gm_n))))))))))))))) rfl (by decide +kernel)
set_option maxRecDepth 20000 in
theorem gX5_fill_X5_others : GoodIn wsX5_fill (wsV RX5 138 RX5 yX5_others wsX5_others) := goodIn_app (goodIn_m _ [(wsX5_fill_r3, [false, false, false, false, false, false, false, false, false, false, false, false, false, false, true, true, true]), (wsX5_fill_r1, [false, false, false, false, false, true])] (gm_c mi_wsX5_fill_wsX5_fill_r3 (gm_c mi_wsX5_fill_wsX5_fill_r1 gm_n)) rfl (by decide +kernel)) ggX5_fill_X5_others
def dt_cX5_fill_0 : List (Nat × Nat × Nat × Nat) := [(0, 42, 0, 0), (1, 3, 0, 0), (2, 181, 2, 77), (5, 42, 0, 0), (6, 27, 0, 0), (7, 28, 0, 0), (8, 182, 2, 142), (11, 153, 2, 10), (14, 29, 0, 0), (15, 184, 2, 132), (18, 154, 2, 5), (21, 2, 0, 0), (22, 172, 0, 0), (23, 42, 0, 0), (24, 182, 2, 135), (27, 27, 0, 0), (28, 54, 1, 4), (30, 21, 1, 4), (32, 28, 0, 0), (33, 162, 2, 17)]
theorem da_cX5_fill_0 : fw dt_cX5_fill_0 0 cX5_fill.data.toList = true := by decide +kernel
theorem dX5_fill_0 : decode cX5_fill 0 = .ok (.aload_n 0, 1) := fo_42 (fw_get da_cX5_fill_0 0 rfl)
theorem dX5_fill_1 : decode cX5_fill 1 = .ok (.iconst 0, 1) := fo_3 (fw_get da_cX5_fill_0 1 rfl)
theorem dX5_fill_2 : decode cX5_fill 2 = .ok (.putfield 77, 3) := fo_181 (fw_get da_cX5_fill_0 2 rfl)
theorem dX5_fill_5 : decode cX5_fill 5 = .ok (.aload_n 0, 1) := fo_42 (fw_get da_cX5_fill_0 3 rfl)
theorem dX5_fill_6 : decode cX5_fill 6 = .ok (.iload_n 1, 1) := fo_27 (fw_get da_cX5_fill_0 4 rfl)
theorem dX5_fill_7 : decode cX5_fill 7 = .ok (.iload_n 2, 1) := fo_28 (fw_get da_cX5_fill_0 5 rfl)
theorem dX5_fill_8 : decode cX5_fill 8 = .ok (.invokevirtual 142, 3) := fo_182 (fw_get da_cX5_fill_0 6 rfl)
theorem dX5_fill_11 : decode cX5_fill 11 = .ok (.ifCond .eq 10, 3) := fo_153 (fw_get da_cX5_fill_0 7 rfl) (by decide +kernel)
theorem dX5_fill_14 : decode cX5_fill 14 = .ok (.iload_n 3, 1) := fo_29 (fw_get da_cX5_fill_0 8 rfl)
theorem dX5_fill_15 : decode cX5_fill 15 = .ok (.invokestatic 132, 3) := fo_184 (fw_get da_cX5_fill_0 9 rfl)
theorem dX5_fill_18 : decode cX5_fill 18 = .ok (.ifCond .ne 5, 3) := fo_154 (fw_get da_cX5_fill_0 10 rfl) (by decide +kernel)
theorem dX5_fill_21 : decode cX5_fill 21 = .ok (.iconst (-1), 1) := fo_2 (fw_get da_cX5_fill_0 11 rfl)
theorem dX5_fill_22 : decode cX5_fill 22 = .ok (.ireturn, 1) := fo_172 (fw_get da_cX5_fill_0 12 rfl)
theorem dX5_fill_23 : decode cX5_fill 23 = .ok (.aload_n 0, 1) := fo_42 (fw_get da_cX5_fill_0 13 rfl)
theorem dX5_fill_24 : decode cX5_fill 24 = .ok (.invokevirtual 135, 3) := fo_182 (fw_get da_cX5_fill_0 14 rfl)
theorem dX5_fill_27 : decode cX5_fill 27 = .ok (.iload_n 1, 1) := fo_27 (fw_get da_cX5_fill_0 15 rfl)
theorem dX5_fill_28 : decode cX5_fill 28 = .ok (.istore 4, 2) := fo_54 (fw_get da_cX5_fill_0 16 rfl)
theorem dX5_fill_30 : decode cX5_fill 30 = .ok (.iload 4, 2) := fo_21 (fw_get da_cX5_fill_0 17 rfl)
theorem dX5_fill_32 : decode cX5_fill 32 = .ok (.iload_n 2, 1) := fo_28 (fw_get da_cX5_fill_0 18 rfl)
theorem dX5_fill_33 : decode cX5_fill 33 = .ok (.if_icmp .ge 17, 3) := fo_162 (fw_get da_cX5_fill_0 19 rfl) (by decide +kernel)
def dt_cX5_fill_1 : List (Nat × Nat × Nat × Nat) := [(36, 42, 0, 0), (37, 180, 2, 7), (40, 21, 1, 4), (42, 29, 0, 0), (43, 79, 0, 0), (44, 132, 2, 1025), (47, 167, 2, 65519), (50, 42, 0, 0), (51, 182, 2, 138), (54, 172, 0, 0)]
theorem da_cX5_fill_1 : fw dt_cX5_fill_1 0 cX5_fill.data.toList = true := by decide +kernel
theorem dX5_fill_36 : decode cX5_fill 36 = .ok (.aload_n 0, 1) := fo_42 (fw_get da_cX5_fill_1 0 rfl)
theorem dX5_fill_37 : decode cX5_fill 37 = .ok (.getfield 7, 3) := fo_180 (fw_get da_cX5_fill_1 1 rfl)
theorem dX5_fill_40 : decode cX5_fill 40 = .ok (.iload 4, 2) := fo_21 (fw_get da_cX5_fill_1 2 rfl)
theorem dX5_fill_42 : decode cX5_fill 42 = .ok (.iload_n 3, 1) := fo_29 (fw_get da_cX5_fill_1 3 rfl)
theorem dX5_fill_43 : decode cX5_fill 43 = .ok (.iastore, 1) := fo_79 (fw_get da_cX5_fill_1 4 rfl)
theorem dX5_fill_44 : decode cX5_fill 44 = .ok (.iinc 4 1, 3) := fo_132 (fw_get da_cX5_fill_1 5 rfl) rfl (by decide +kernel)
theorem dX5_fill_47 : decode cX5_fill 47 = .ok (.goto (-17), 3) := fo_167 (fw_get da_cX5_fill_1 6 rfl) (by decide +kernel)
theorem dX5_fill_50 : decode cX5_fill 50 = .ok (.aload_n 0, 1) := fo_42 (fw_get da_cX5_fill_1 7 rfl)
theorem dX5_fill_51 : decode cX5_fill 51 = .ok (.invokevirtual 138, 3) := fo_182 (fw_get da_cX5_fill_1 8 rfl)
theorem dX5_fill_54 : decode cX5_fill 54 = .ok (.ireturn, 1) := fo_172 (fw_get da_cX5_fill_1 9 rfl)
def dt_cX5_exchanges_0 : List (Nat × Nat × Nat × Nat) := [(0, 42, 0, 0), (1, 180, 2, 7), (4, 27, 0, 0), (5, 46, 0, 0), (6, 62, 0, 0), (7, 42, 0, 0), (8, 180, 2, 7), (11, 27, 0, 0), (12, 42, 0, 0), (13, 180, 2, 7), (16, 28, 0, 0), (17, 46, 0, 0), (18, 79, 0, 0), (19, 42, 0, 0), (20, 180, 2, 7), (23, 28, 0, 0), (24, 29, 0, 0), (25, 79, 0, 0), (26, 177, 0, 0)]
theorem da_cX5_exchanges_0 : fw dt_cX5_exchanges_0 0 cX5_exchanges.data.toList = true := by decide +kernel
theorem dX5_exchanges_0 : decode cX5_exchanges 0 = .ok (.aload_n 0, 1) := fo_42 (fw_get da_cX5_exchanges_0 0 rfl)
theorem dX5_exchanges_1 : decode cX5_exchanges 1 = .ok (.getfield 7, 3) := fo_180 (fw_get da_cX5_exchanges_0 1 rfl)
theorem dX5_exchanges_4 : decode cX5_exchanges 4 = .ok (.iload_n 1, 1) := fo_27 (fw_get da_cX5_exchanges_0 2 rfl)
theorem dX5_exchanges_5 : decode cX5_exchanges 5 = .ok (.iaload, 1) := fo_46 (fw_get da_cX5_exchanges_0 3 rfl)
theorem dX5_exchanges_6 : decode cX5_exchanges 6 = .ok (.istore_n 3, 1) := fo_62 (fw_get da_cX5_exchanges_0 4 rfl)
theorem dX5_exchanges_7 : decode cX5_exchanges 7 = .ok (.aload_n 0, 1) := fo_42 (fw_get da_cX5_exchanges_0 5 rfl)
theorem dX5_exchanges_8 : decode cX5_exchanges 8 = .ok (.getfield 7, 3) := fo_180 (fw_get da_cX5_exchanges_0 6 rfl)
theorem dX5_exchanges_11 : decode cX5_exchanges 11 = .ok (.iload_n 1, 1) := fo_27 (fw_get da_cX5_exchanges_0 7 rfl)
theorem dX5_exchanges_12 : decode cX5_exchanges 12 = .ok (.aload_n 0, 1) := fo_42 (fw_get da_cX5_exchanges_0 8 rfl)
theorem dX5_exchanges_13 : decode cX5_exchanges 13 = .ok (.getfield 7, 3) := fo_180 (fw_get da_cX5_exchanges_0 9 rfl)
theorem dX5_exchanges_16 : decode cX5_exchanges 16 = .ok (.iload_n 2, 1) := fo_28 (fw_get da_cX5_exchanges_0 10 rfl)
theorem dX5_exchanges_17 : decode cX5_exchanges 17 = .ok (.iaload, 1) := fo_46 (fw_get da_cX5_exchanges_0 11 rfl)
theorem dX5_exchanges_18 : decode cX5_exchanges 18 = .ok (.iastore, 1) := fo_79 (fw_get da_cX5_exchanges_0 12 rfl)
theorem dX5_exchanges_19 : decode cX5_exchanges 19 = .ok (.aload_n 0, 1) := fo_42 (fw_get da_cX5_exchanges_0 13 rfl)
theorem dX5_exchanges_20 : decode cX5_exchanges 20 = .ok (.getfield 7, 3) := fo_180 (fw_get da_cX5_exchanges_0 14 rfl)
theorem dX5_exchanges_23 : decode cX5_exchanges 23 = .ok (.iload_n 2, 1) := fo_28 (fw_get da_cX5_exchanges_0 15 rfl)
theorem dX5_exchanges_24 : decode cX5_exchanges 24 = .ok (.iload_n 3, 1) := fo_29 (fw_get da_cX5_exchanges_0 16 rfl)
theorem dX5_exchanges_25 : decode cX5_exchanges 25 = .ok (.iastore, 1) := fo_79 (fw_get da_cX5_exchanges_0 17 rfl)
theorem dX5_exchanges_26 : decode cX5_exchanges 26 = .ok (.return_, 1) := fo_177 (fw_get da_cX5_exchanges_0 18 rfl)
theorem mi_wsX5_turn_wsX5_turn_r1 : ∀ w ∈ wsX5_turn_r1, w ∈ wsX5_turn := fun _ h => (List.mem_cons_of_mem _ (List.mem_append_left _ (List.mem_append_left _ h)))
theorem mi_wsX5_turn_wsX50 : ∀ w ∈ wsX50, w ∈ wsX5_turn := fun _ h => (List.mem_cons_of_mem _ (List.mem_append_right _ h))
set_option maxRecDepth 20000 in
theorem ggX5_turn_X5_isRange : GoodIn wsX5_turn wsX5_isRange := goodIn_m _ [(wsX5_turn_r1, [false, false, false, false, false, true, true]), (wsX50, [true, true, true, true, true, true, true, true, true, true, true, true, true, true, true, true, true, true, true, true, true, true, true, true, true, true, true, true, true, true])] (gm_c mi_wsX5_turn_wsX5_turn_r1 (gm_c mi_wsX5_turn_wsX50 gm_n)) rfl (by decide +kernel)
set_option maxRecDepth 20000 in
theorem gX5_turn_X5_isRange : GoodIn wsX5_turn (wsV RX5 142 RX5 yX5_isRange wsX5_isRange) := goodIn_app (goodIn_m _ [(wsX5_turn_r1, [false, true, true, true, true])] (gm_c mi_wsX5_turn_wsX5_turn_r1 gm_n) rfl (by decide +kernel)) ggX5_turn_X5_isRange
theorem mi_wsX5_turn_wsX5_turn_r2 : ∀ w ∈ wsX5_turn_r2, w ∈ wsX5_turn := fun _ h => (List.mem_cons_of_mem _ (List.mem_append_left _ (List.mem_append_right _ (List.mem_append_left _ h))))
theorem mi_wsX5_turn_wsX5_turn_r3 : ∀ w ∈ wsX5_turn_r3, w ∈ wsX5_turn := fun _ h => (List.mem_cons_of_mem _ (List.mem_append_left _ (List.mem_append_right _ (List.mem_append_right _ h))))
set_option maxRecDepth 20000 in
theorem ggX5_turn_X5_keeps : GoodIn wsX5_turn wsX5_keeps := goodIn_m _ [(wsX5_turn_r1, [false, false, false, false, false, false, false, false, false, false, true, true, true, true, true, true, true, true, true, true, true, true, true, true]), (wsX5_turn_r1, [false, false, false, false, true]), (wsX5_turn_r2, [true]), (wsX5_turn_r1, [false, false, false, false, false, false, true]), (wsX5_turn_r2, [false, true, true, true, true, true, true, true, true, true, true, true, true, true, true, true, true, true, true, true, true, true, true, true]), (wsX5_turn_r3, [true, true, true, true, true, true, true, true]), (wsX50, [true, true, true, true, true, true, true, true, true, true, true, true, true, true, true, true, true, true, true, true, true, true, true, true, true, true, true, true, true, true])] (gm_c mi_wsX5_turn_wsX5_turn_r1 (gm_c mi_wsX5_turn_wsX5_turn_r1 (gm_c mi_wsX5_turn_wsX5_turn_r2 (gm_c mi_wsX5_turn_wsX5_turn_r1 (gm_c mi_wsX5_turn_wsX5_turn_r2 (gm_c mi_wsX5_turn_wsX5_turn_r3 (gm_c mi_wsX5_turn_wsX50 gm_n))))))) rfl (by decide +kernel)
set_option maxRecDepth 20000 in
theorem gX5_turn_X5_keeps : GoodIn wsX5_turn (wsV RX5 135 RX5 yX5_keeps wsX5_keeps) := goodIn_app (goodIn_m _ [(wsX5_turn_r1, [false, false, false, false, false, false, false, true, true, true]), (wsX5_turn_r1, [false, false, false, false, true])] (gm_c mi_wsX5_turn_wsX5_turn_r1 (gm_c mi_wsX5_turn_wsX5_turn_r1 gm_n)) rfl (by decide +kernel)) ggX5_turn_X5_keeps
set_option maxRecDepth 20000 in
theorem ggX5_turn_X5_exchanges : GoodIn wsX5_turn wsX5_exchanges := goodIn_m _ [(wsX5_turn_r3, [false, false, false, false, false, false, false, false, false, false, false, true]), (wsX5_turn_r2, [false, false, false, false, false, false, false, true]), (wsX50, [true, true, true, true, true, true, true, true, true, true, true, true, true, true, true, true, true, true, true, true, true, true, true, true, true, true, true, true, true, true])] (gm_c mi_wsX5_turn_wsX5_turn_r3 (gm_c mi_wsX5_turn_wsX5_turn_r2 (gm_c mi_wsX5_turn_wsX50 gm_n))) rfl (by decide +kernel)
set_option maxRecDepth 20000 in
theorem gX5_turn_X5_exchanges : GoodIn wsX5_turn (wsV RX5 145 RX5 yX5_exchanges wsX5_exchanges) := goodIn_app (goodIn_m _ [(wsX5_turn_r3, [false, false, false, false, false, false, false, false, true, true, true]), (wsX5_turn_r1, [false, false, false, false, true])] (gm_c mi_wsX5_turn_wsX5_turn_r3 (gm_c mi_wsX5_turn_wsX5_turn_r1 gm_n)) rfl (by decide +kernel)) ggX5_turn_X5_exchanges
set_option maxRecDepth 20000 in
theorem ggX5_turn_X5_others : GoodIn wsX5_turn wsX5_others := goodIn_m _ [(wsX5_turn_r3, [false, false, false, false, false, false, false, false, false, false, false, false, false, false, false, true]), (wsX5_turn_r1, [false, false, false, false, false, false, false, false, false, false, false, true, true, false, true]), (wsX5_turn_r1, [false, false, false, false, false, false, false, false, false, false, false, false, false, true, false, false, true]), (wsX5_turn_r1, [false, false, false, false, false, false, false, false, false, false, false, false, false, false, false, true, false, false, true]), (wsX5_turn_r1, [false, false, false, false, false, false, false, false, false, false, false, false, false, false, false, false, false, true, false, false, true]), (wsX5_turn_r1, [false, false, false, false, false, false, false, false, false, false, false, false, false, false, false, false, false, false, false, true, false, true, true, true]), (wsX5_turn_r1, [false, false, false, false, true]), (wsX5_turn_r2, [true]), (wsX5_turn_r1, [false, false, false, false, false, false, true]), (wsX5_turn_r2, [false, true, true, true, true, true, true, true, true, true, true, true, true, true, true, true, true, true, true, true, true, true, true, true]), (wsX5_turn_r3, [true, true, true, true, true, true, true, true]), (wsX50, [true, true, true, true, true, true, true, true, true, true, true, true, true, true, true, true, true, true, true, true, true, true, true, true, true, true, true, true, true, true])] (gm_c mi_wsX5_turn_wsX5_turn_r3 (gm_c mi_wsX5_turn_wsX5_turn_r1 (gm_c mi_wsX5_turn_wsX5_turn_r1 (gm_c mi_wsX5_turn_wsX5_turn_r1 (gm_c mi_wsX5_turn_wsX5_turn_r1 (gm_c mi_wsX5_turn_wsX5_turn_r1 (gm_c mi_wsX5_turn_wsX5_turn_r1 (gm_c mi_wsX5_turn_wsX5_turn_r2 (gm_c mi_wsX5_turn_wsX5_turn_r1 (gm_c mi_wsX5_turn_wsX5_turn_r2 (gm_c mi_wsX5_turn_wsX5_turn_r3 (gm_c mi_wsX5_turn_wsX50 gm_n)))))))))))) rfl (by decide +kernel)
set_option maxRecDepth 20000 in
theorem gX5_turn_X5_others : GoodIn wsX5_turn (wsV RX5 138 RX5 yX5_others wsX5_others) := goodIn_app (goodIn_m _ [(wsX5_turn_r3, [false, false, false, false, false, false, false, false, false, false, false, false, true, true, true]), (wsX5_turn_r1, [false, false, false, false, true])] (gm_c mi_wsX5_turn_wsX5_turn_r3 (gm_c mi_wsX5_turn_wsX5_turn_r1 gm_n)) rfl (by decide +kernel)) ggX5_turn_X5_others
def dt_cX5_turn_0 : List (Nat × Nat × Nat × Nat) := [(0, 42, 0, 0), (1, 3, 0, 0), (2, 181, 2, 77), (5, 42, 0, 0), (6, 27, 0, 0), (7, 28, 0, 0), (8, 182, 2, 142), (11, 154, 2, 5), (14, 2, 0, 0), (15, 172, 0, 0), (16, 42, 0, 0), (17, 182, 2, 135), (20, 3, 0, 0), (21, 62, 0, 0), (22, 29, 0, 0), (23, 28, 0, 0), (24, 27, 0, 0), (25, 100, 0, 0), (26, 5, 0, 0), (27, 108, 0, 0)]
theorem da_cX5_turn_0 : fw dt_cX5_turn_0 0 cX5_turn.data.toList = true := by decide +kernel
theorem dX5_turn_0 : decode cX5_turn 0 = .ok (.aload_n 0, 1) := fo_42 (fw_get da_cX5_turn_0 0 rfl)
theorem dX5_turn_1 : decode cX5_turn 1 = .ok (.iconst 0, 1) := fo_3 (fw_get da_cX5_turn_0 1 rfl)
theorem dX5_turn_2 : decode cX5_turn 2 = .ok (.putfield 77, 3) := fo_181 (fw_get da_cX5_turn_0 2 rfl)
theorem dX5_turn_5 : decode cX5_turn 5 = .ok (.aload_n 0, 1) := fo_42 (fw_get da_cX5_turn_0 3 rfl)
theorem dX5_turn_6 : decode cX5_turn 6 = .ok (.iload_n 1, 1) := fo_27 (fw_get da_cX5_turn_0 4 rfl)
theorem dX5_turn_7 : decode cX5_turn 7 = .ok (.iload_n 2, 1) := fo_28 (fw_get da_cX5_turn_0 5 rfl)
theorem dX5_turn_8 : decode cX5_turn 8 = .ok (.invokevirtual 142, 3) := fo_182 (fw_get da_cX5_turn_0 6 rfl)
theorem dX5_turn_11 : decode cX5_turn 11 = .ok (.ifCond .ne 5, 3) := fo_154 (fw_get da_cX5_turn_0 7 rfl) (by decide +kernel)
theorem dX5_turn_14 : decode cX5_turn 14 = .ok (.iconst (-1), 1) := fo_2 (fw_get da_cX5_turn_0 8 rfl)
theorem dX5_turn_15 : decode cX5_turn 15 = .ok (.ireturn, 1) := fo_172 (fw_get da_cX5_turn_0 9 rfl)
theorem dX5_turn_16 : decode cX5_turn 16 = .ok (.aload_n 0, 1) := fo_42 (fw_get da_cX5_turn_0 10 rfl)
theorem dX5_turn_17 : decode cX5_turn 17 = .ok (.invokevirtual 135, 3) := fo_182 (fw_get da_cX5_turn_0 11 rfl)
theorem dX5_turn_20 : decode cX5_turn 20 = .ok (.iconst 0, 1) := fo_3 (fw_get da_cX5_turn_0 12 rfl)
theorem dX5_turn_21 : decode cX5_turn 21 = .ok (.istore_n 3, 1) := fo_62 (fw_get da_cX5_turn_0 13 rfl)
theorem dX5_turn_22 : decode cX5_turn 22 = .ok (.iload_n 3, 1) := fo_29 (fw_get da_cX5_turn_0 14 rfl)
theorem dX5_turn_23 : decode cX5_turn 23 = .ok (.iload_n 2, 1) := fo_28 (fw_get da_cX5_turn_0 15 rfl)
theorem dX5_turn_24 : decode cX5_turn 24 = .ok (.iload_n 1, 1) := fo_27 (fw_get da_cX5_turn_0 16 rfl)
theorem dX5_turn_25 : decode cX5_turn 25 = .ok (.isub, 1) := fo_100 (fw_get da_cX5_turn_0 17 rfl)
theorem dX5_turn_26 : decode cX5_turn 26 = .ok (.iconst 2, 1) := fo_5 (fw_get da_cX5_turn_0 18 rfl)
theorem dX5_turn_27 : decode cX5_turn 27 = .ok (.idiv, 1) := fo_108 (fw_get da_cX5_turn_0 19 rfl)
def dt_cX5_turn_1 : List (Nat × Nat × Nat × Nat) := [(28, 162, 2, 21), (31, 42, 0, 0), (32, 27, 0, 0), (33, 29, 0, 0), (34, 96, 0, 0), (35, 28, 0, 0), (36, 4, 0, 0), (37, 100, 0, 0), (38, 29, 0, 0), (39, 100, 0, 0), (40, 182, 2, 145), (43, 132, 2, 769), (46, 167, 2, 65512), (49, 42, 0, 0), (50, 182, 2, 138), (53, 172, 0, 0)]
theorem da_cX5_turn_1 : fw dt_cX5_turn_1 0 cX5_turn.data.toList = true := by decide +kernel
theorem dX5_turn_28 : decode cX5_turn 28 = .ok (.if_icmp .ge 21, 3) := fo_162 (fw_get da_cX5_turn_1 0 rfl) (by decide +kernel)
theorem dX5_turn_31 : decode cX5_turn 31 = .ok (.aload_n 0, 1) := fo_42 (fw_get da_cX5_turn_1 1 rfl)
theorem dX5_turn_32 : decode cX5_turn 32 = .ok (.iload_n 1, 1) := fo_27 (fw_get da_cX5_turn_1 2 rfl)
theorem dX5_turn_33 : decode cX5_turn 33 = .ok (.iload_n 3, 1) := fo_29 (fw_get da_cX5_turn_1 3 rfl)
theorem dX5_turn_34 : decode cX5_turn 34 = .ok (.iadd, 1) := fo_96 (fw_get da_cX5_turn_1 4 rfl)
theorem dX5_turn_35 : decode cX5_turn 35 = .ok (.iload_n 2, 1) := fo_28 (fw_get da_cX5_turn_1 5 rfl)
theorem dX5_turn_36 : decode cX5_turn 36 = .ok (.iconst 1, 1) := fo_4 (fw_get da_cX5_turn_1 6 rfl)
theorem dX5_turn_37 : decode cX5_turn 37 = .ok (.isub, 1) := fo_100 (fw_get da_cX5_turn_1 7 rfl)
theorem dX5_turn_38 : decode cX5_turn 38 = .ok (.iload_n 3, 1) := fo_29 (fw_get da_cX5_turn_1 8 rfl)
theorem dX5_turn_39 : decode cX5_turn 39 = .ok (.isub, 1) := fo_100 (fw_get da_cX5_turn_1 9 rfl)
theorem dX5_turn_40 : decode cX5_turn 40 = .ok (.invokevirtual 145, 3) := fo_182 (fw_get da_cX5_turn_1 10 rfl)
theorem dX5_turn_43 : decode cX5_turn 43 = .ok (.iinc 3 1, 3) := fo_132 (fw_get da_cX5_turn_1 11 rfl) rfl (by decide +kernel)
theorem dX5_turn_46 : decode cX5_turn 46 = .ok (.goto (-24), 3) := fo_167 (fw_get da_cX5_turn_1 12 rfl) (by decide +kernel)
theorem dX5_turn_49 : decode cX5_turn 49 = .ok (.aload_n 0, 1) := fo_42 (fw_get da_cX5_turn_1 13 rfl)
theorem dX5_turn_50 : decode cX5_turn 50 = .ok (.invokevirtual 138, 3) := fo_182 (fw_get da_cX5_turn_1 14 rfl)
theorem dX5_turn_53 : decode cX5_turn 53 = .ok (.ireturn, 1) := fo_172 (fw_get da_cX5_turn_1 15 rfl)
theorem mi_wsX5_swap_wsX5_swap_r1 : ∀ w ∈ wsX5_swap_r1, w ∈ wsX5_swap := fun _ h => (List.mem_cons_of_mem _ (List.mem_append_left _ (List.mem_append_left _ h)))
theorem mi_wsX5_swap_wsX50 : ∀ w ∈ wsX50, w ∈ wsX5_swap := fun _ h => (List.mem_cons_of_mem _ (List.mem_append_right _ h))
set_option maxRecDepth 20000 in
theorem ggX5_swap_X5_isPlace : GoodIn wsX5_swap wsX5_isPlace := goodIn_m _ [(wsX5_swap_r1, [false, false, false, false, false, true, true, true, true]), (wsX5_swap_r1, [false, false, false, false, true, false, false, false, false, true]), (wsX50, [true, true, true, true, true, true, true, true, true, true, true, true, true, true, true, true, true, true, true, true, true, true, true, true, true, true, true, true, true, true])] (gm_c mi_wsX5_swap_wsX5_swap_r1 (gm_c mi_wsX5_swap_wsX5_swap_r1 (gm_c mi_wsX5_swap_wsX50 gm_n))) rfl (by decide +kernel)
set_option maxRecDepth 20000 in
theorem gX5_swap_X5_isPlace : GoodIn wsX5_swap (wsV RX5 128 RX5 yX5_isPlace wsX5_isPlace) := goodIn_app (goodIn_m _ [(wsX5_swap_r1, [false, true, true, true, true])] (gm_c mi_wsX5_swap_wsX5_swap_r1 gm_n) rfl (by decide +kernel)) ggX5_swap_X5_isPlace
theorem mi_wsX5_swap_wsX5_swap_r2 : ∀ w ∈ wsX5_swap_r2, w ∈ wsX5_swap := fun _ h => (List.mem_cons_of_mem _ (List.mem_append_left _ (List.mem_append_right _ (List.mem_append_left _ h))))
theorem mi_wsX5_swap_wsX5_swap_r3 : ∀ w ∈ wsX5_swap_r3, w ∈ wsX5_swap := fun _ h => (List.mem_cons_of_mem _ (List.mem_append_left _ (List.mem_append_right _ (List.mem_append_right _ h))))
set_option maxRecDepth 20000 in
theorem ggX5_swap_X5_keeps : GoodIn wsX5_swap wsX5_keeps := goodIn_m _ [(wsX5_swap_r1, [false, false, false, false, false, false, false, false, false, false, false, false, false, true, true, true, true, true, true, true, true, true, true, true]), (wsX5_swap_r2, [true, true, true]), (wsX5_swap_r1, [false, false, false, false, true]), (wsX5_swap_r2, [false, false, false, true]), (wsX5_swap_r1, [false, false, false, false, false, false, true]), (wsX5_swap_r2, [false, false, false, false, true, true, true, true, true, true, true, true, true, true, true, true, true, true, true, true, true, true, true, true]), (wsX5_swap_r3, [true, true, true, true, true, true, true, true, true, true, true]), (wsX50, [true, true, true, true, true, true, true, true, true, true, true, true, true, true, true, true, true, true, true, true, true, true, true, true, true, true, true, true, true, true])] (gm_c mi_wsX5_swap_wsX5_swap_r1 (gm_c mi_wsX5_swap_wsX5_swap_r2 (gm_c mi_wsX5_swap_wsX5_swap_r1 (gm_c mi_wsX5_swap_wsX5_swap_r2 (gm_c mi_wsX5_swap_wsX5_swap_r1 (gm_c mi_wsX5_swap_wsX5_swap_r2 (gm_c mi_wsX5_swap_wsX5_swap_r3 (gm_c mi_wsX5_swap_wsX50 gm_n)))))))) rfl (by decide +kernel)
set_option maxRecDepth 20000 in
theorem gX5_swap_X5_keeps : GoodIn wsX5_swap (wsV RX5 135 RX5 yX5_keeps wsX5_keeps) := goodIn_app (goodIn_m _ [(wsX5_swap_r1, [false, false, false, false, false, false, false, false, false, false, true, true, true]), (wsX5_swap_r1, [false, false, false, false, true])] (gm_c mi_wsX5_swap_wsX5_swap_r1 (gm_c mi_wsX5_swap_wsX5_swap_r1 gm_n)) rfl (by decide +kernel)) ggX5_swap_X5_keeps
set_option maxRecDepth 20000 in
theorem ggX5_swap_X5_exchanges : GoodIn wsX5_swap wsX5_exchanges := goodIn_m _ [(wsX5_swap_r3, [false, false, false, false, false, false, false, false, false, false, false, false, false, false, true]), (wsX5_swap_r2, [false, false, false, false, false, false, false, false, false, false, true]), (wsX50, [true, true, true, true, true, true, true, true, true, true, true, true, true, true, true, true, true, true, true, true, true, true, true, true, true, true, true, true, true, true])] (gm_c mi_wsX5_swap_wsX5_swap_r3 (gm_c mi_wsX5_swap_wsX5_swap_r2 (gm_c mi_wsX5_swap_wsX50 gm_n))) rfl (by decide +kernel)
set_option maxRecDepth 20000 in
theorem gX5_swap_X5_exchanges : GoodIn wsX5_swap (wsV RX5 145 RX5 yX5_exchanges wsX5_exchanges) := goodIn_app (goodIn_m _ [(wsX5_swap_r3, [false, false, false, false, false, false, false, false, false, false, false, true, true, true]), (wsX5_swap_r1, [false, false, false, false, true])] (gm_c mi_wsX5_swap_wsX5_swap_r3 (gm_c mi_wsX5_swap_wsX5_swap_r1 gm_n)) rfl (by decide +kernel)) ggX5_swap_X5_exchanges
set_option maxRecDepth 20000 in
theorem ggX5_swap_X5_others : GoodIn wsX5_swap wsX5_others := goodIn_m _ [(wsX5_swap_r3, [false, false, false, false, false, false, false, false, false, false, false, false, false, false, false, false, false, false, true]), (wsX5_swap_r1, [false, false, false, false, false, false, false, false, false, false, false, false, false, false, true, true, false, true]), (wsX5_swap_r1, [false, false, false, false, false, false, false, false, false, false, false, false, false, false, false, false, true, false, false, true]), (wsX5_swap_r1, [false, false, false, false, false, false, false, false, false, false, false, false, false, false, false, false, false, false, true, false, false, true]), (wsX5_swap_r1, [false, false, false, false, false, false, false, false, false, false, false, false, false, false, false, false, false, false, false, false, true, false, false, true]), (wsX5_swap_r1, [false, false, false, false, false, false, false, false, false, false, false, false, false, false, false, false, false, false, false, false, false, false, true]), (wsX5_swap_r2, [true, true, true]), (wsX5_swap_r1, [false, false, false, false, true]), (wsX5_swap_r2, [false, false, false, true]), (wsX5_swap_r1, [false, false, false, false, false, false, true]), (wsX5_swap_r2, [false, false, false, false, true, true, true, true, true, true, true, true, true, true, true, true, true, true, true, true, true, true, true, true]), (wsX5_swap_r3, [true, true, true, true, true, true, true, true, true, true, true]), (wsX50, [true, true, true, true, true, true, true, true, true, true, true, true, true, true, true, true, true, true, true, true, true, true, true, true, true, true, true, true, true, true])] (gm_c mi_wsX5_swap_wsX5_swap_r3 (gm_c mi_wsX5_swap_wsX5_swap_r1 (gm_c mi_wsX5_swap_wsX5_swap_r1 (gm_c mi_wsX5_swap_wsX5_swap_r1 (gm_c mi_wsX5_swap_wsX5_swap_r1 (gm_c mi_wsX5_swap_wsX5_swap_r1 (gm_c mi_wsX5_swap_wsX5_swap_r2 (gm_c mi_wsX5_swap_wsX5_swap_r1 (gm_c mi_wsX5_swap_wsX5_swap_r2 (gm_c mi_wsX5_swap_wsX5_swap_r1 (gm_c mi_wsX5_swap_wsX5_swap_r2 (gm_c mi_wsX5_swap_wsX5_swap_r3 (gm_c mi_wsX5_swap_wsX50 gm_n))))))))))))) rfl (by decide +kernel)
set_option maxRecDepth 20000 in
theorem gX5_swap_X5_others : GoodIn wsX5_swap (wsV RX5 138 RX5 yX5_others wsX5_others) := goodIn_app (goodIn_m _ [(wsX5_swap_r3, [false, false, false, false, false, false, false, false, false, false, false, false, false, false, false, true, true, true]), (wsX5_swap_r1, [false, false, false, false, true])] (gm_c mi_wsX5_swap_wsX5_swap_r3 (gm_c mi_wsX5_swap_wsX5_swap_r1 gm_n)) rfl (by decide +kernel)) ggX5_swap_X5_others
def dt_cX5_swap_0 : List (Nat × Nat × Nat × Nat) := [(0, 42, 0, 0), (1, 3, 0, 0), (2, 181, 2, 77), (5, 42, 0, 0), (6, 27, 0, 0), (7, 182, 2, 128), (10, 153, 2, 11), (13, 42, 0, 0), (14, 28, 0, 0), (15, 182, 2, 128), (18, 154, 2, 5), (21, 2, 0, 0), (22, 172, 0, 0), (23, 42, 0, 0), (24, 182, 2, 135), (27, 42, 0, 0), (28, 27, 0, 0), (29, 28, 0, 0), (30, 182, 2, 145), (33, 42, 0, 0)]
theorem da_cX5_swap_0 : fw dt_cX5_swap_0 0 cX5_swap.data.toList = true := by decide +kernel
theorem dX5_swap_0 : decode cX5_swap 0 = .ok (.aload_n 0, 1) := fo_42 (fw_get da_cX5_swap_0 0 rfl)
theorem dX5_swap_1 : decode cX5_swap 1 = .ok (.iconst 0, 1) := fo_3 (fw_get da_cX5_swap_0 1 rfl)
theorem dX5_swap_2 : decode cX5_swap 2 = .ok (.putfield 77, 3) := fo_181 (fw_get da_cX5_swap_0 2 rfl)
theorem dX5_swap_5 : decode cX5_swap 5 = .ok (.aload_n 0, 1) := fo_42 (fw_get da_cX5_swap_0 3 rfl)
theorem dX5_swap_6 : decode cX5_swap 6 = .ok (.iload_n 1, 1) := fo_27 (fw_get da_cX5_swap_0 4 rfl)
theorem dX5_swap_7 : decode cX5_swap 7 = .ok (.invokevirtual 128, 3) := fo_182 (fw_get da_cX5_swap_0 5 rfl)
theorem dX5_swap_10 : decode cX5_swap 10 = .ok (.ifCond .eq 11, 3) := fo_153 (fw_get da_cX5_swap_0 6 rfl) (by decide +kernel)
theorem dX5_swap_13 : decode cX5_swap 13 = .ok (.aload_n 0, 1) := fo_42 (fw_get da_cX5_swap_0 7 rfl)
theorem dX5_swap_14 : decode cX5_swap 14 = .ok (.iload_n 2, 1) := fo_28 (fw_get da_cX5_swap_0 8 rfl)
theorem dX5_swap_15 : decode cX5_swap 15 = .ok (.invokevirtual 128, 3) := fo_182 (fw_get da_cX5_swap_0 9 rfl)
theorem dX5_swap_18 : decode cX5_swap 18 = .ok (.ifCond .ne 5, 3) := fo_154 (fw_get da_cX5_swap_0 10 rfl) (by decide +kernel)
theorem dX5_swap_21 : decode cX5_swap 21 = .ok (.iconst (-1), 1) := fo_2 (fw_get da_cX5_swap_0 11 rfl)
theorem dX5_swap_22 : decode cX5_swap 22 = .ok (.ireturn, 1) := fo_172 (fw_get da_cX5_swap_0 12 rfl)
theorem dX5_swap_23 : decode cX5_swap 23 = .ok (.aload_n 0, 1) := fo_42 (fw_get da_cX5_swap_0 13 rfl)
theorem dX5_swap_24 : decode cX5_swap 24 = .ok (.invokevirtual 135, 3) := fo_182 (fw_get da_cX5_swap_0 14 rfl)
theorem dX5_swap_27 : decode cX5_swap 27 = .ok (.aload_n 0, 1) := fo_42 (fw_get da_cX5_swap_0 15 rfl)
theorem dX5_swap_28 : decode cX5_swap 28 = .ok (.iload_n 1, 1) := fo_27 (fw_get da_cX5_swap_0 16 rfl)
theorem dX5_swap_29 : decode cX5_swap 29 = .ok (.iload_n 2, 1) := fo_28 (fw_get da_cX5_swap_0 17 rfl)
theorem dX5_swap_30 : decode cX5_swap 30 = .ok (.invokevirtual 145, 3) := fo_182 (fw_get da_cX5_swap_0 18 rfl)
theorem dX5_swap_33 : decode cX5_swap 33 = .ok (.aload_n 0, 1) := fo_42 (fw_get da_cX5_swap_0 19 rfl)
def dt_cX5_swap_1 : List (Nat × Nat × Nat × Nat) := [(34, 182, 2, 138), (37, 172, 0, 0)]
theorem da_cX5_swap_1 : fw dt_cX5_swap_1 0 cX5_swap.data.toList = true := by decide +kernel
theorem dX5_swap_34 : decode cX5_swap 34 = .ok (.invokevirtual 138, 3) := fo_182 (fw_get da_cX5_swap_1 0 rfl)
theorem dX5_swap_37 : decode cX5_swap 37 = .ok (.ireturn, 1) := fo_172 (fw_get da_cX5_swap_1 1 rfl)


set_option maxHeartbeats 4000000 in
set_option maxRecDepth 100000 in
theorem c_X5_keeps (l : Launch) (dC : Nat → ClassId) (dI : Nat → Nat → Nat) (h0 : Nat) (g_row : Nat) (g_many : Nat) (g_loss : Nat) (g_less : Nat) (g_voteValue : Nat) (g_voteNumber : Nat) (g_allValue : Nat) (g_allNumber : Nat) (g_nodeL : Nat) (g_nodeR : Nat) (g_part : Nat) (g_wasMany : Nat) (g_wasLoss : Nat) (g_wasValue : Nat) (g_wasNumber : Nat) (g_path : Nat) (g_heavyValue : Nat) (g_heavyTimes : Nat) (g_fewest : Nat) (g_which : Nat) (g_met : Nat) (m_n : Int32) (m_slots : Int32) (m_thrown : Int32) (m_allMany : Int32) (m_nodes : Int32) (m_partMany : Int32) (m_pathMany : Int32) (m_heavyMany : Int32) (m_mostMet : Int32) (cyI : ClassId) (fm : Nat → Int32) (fl : Nat → Int32) (fe : Nat → Int32) (vv : Nat → Int32) (vn : Nat → Int32) (f : Nat → Int32) (av : Nat → Int32) (an : Nat → Int32) (nl : Nat → Int32) (nr : Nat → Int32) (wm : Nat → Int32) (wl : Nat → Int32) (wv : Nat → Int32) (wn : Nat → Int32) (sz : Nat) (a0 : 0 ≤ m_n.toInt) (a1 : m_n.toInt ≤ 160) (sl0 : 1 ≤ m_slots.toInt) (sl1 : m_slots.toInt ≤ 6) (s4 : six4 fm) : kx_MQ l (dC, dI) yX5_keeps wsX5_keeps ({ frames := 12, cells := 0, slots := 0, locals := 540 }) [.ref h0] [kx_5 h0 g_row m_n m_slots m_thrown g_many g_loss g_less g_voteValue g_voteNumber g_allValue g_allNumber m_allMany g_nodeL g_nodeR m_nodes g_part m_partMany g_wasMany g_wasLoss g_wasValue g_wasNumber g_path m_pathMany g_heavyValue g_heavyTimes m_heavyMany g_fewest g_which g_met m_mostMet, kx_a g_row cyI 160 f, kx_a g_many cyI 324 fm, kx_a g_loss cyI 324 fl, kx_a g_less cyI 324 fe, kx_a g_voteValue cyI 1944 vv, kx_a g_voteNumber cyI 1944 vn, kx_a g_allValue cyI 12 av, kx_a g_allNumber cyI 12 an, kx_a g_nodeL cyI 320 nl, kx_a g_nodeR cyI 320 nr, kx_a g_wasMany cyI 320 wm, kx_a g_wasLoss cyI 320 wl, kx_a g_wasValue cyI 1920 wv, kx_a g_wasNumber cyI 1920 wn] [(cyI, .int)] sz (fun A => va_Qv (fun u : Int32 × Int32 × (Nat → Int32) × (Nat → Int32) × (Nat → Int32) × (Nat → Int32) × (Nat → Int32) × (Nat → Int32) × (Nat → Int32) × (Nat → Int32) × (Nat → Int32) × (Nat → Int32) × (Nat → Int32) × (Nat → Int32) × (Nat → Int32) => six4 u.2.2.1) (fun (u : Int32 × Int32 × (Nat → Int32) × (Nat → Int32) × (Nat → Int32) × (Nat → Int32) × (Nat → Int32) × (Nat → Int32) × (Nat → Int32) × (Nat → Int32) × (Nat → Int32) × (Nat → Int32) × (Nat → Int32) × (Nat → Int32) × (Nat → Int32)) (t : State) => va_P (dC, dI) vwCl [kx_5 h0 g_row m_n m_slots m_thrown g_many g_loss g_less g_voteValue g_voteNumber g_allValue g_allNumber u.2.1 g_nodeL g_nodeR u.1 g_part m_partMany g_wasMany g_wasLoss g_wasValue g_wasNumber g_path m_pathMany g_heavyValue g_heavyTimes m_heavyMany g_fewest g_which g_met m_mostMet, kx_a g_row cyI 160 f, kx_a g_many cyI 324 u.2.2.1, kx_a g_loss cyI 324 u.2.2.2.1, kx_a g_less cyI 324 u.2.2.2.2.1, kx_a g_voteValue cyI 1944 u.2.2.2.2.2.1, kx_a g_voteNumber cyI 1944 u.2.2.2.2.2.2.1, kx_a g_allValue cyI 12 u.2.2.2.2.2.2.2.1, kx_a g_allNumber cyI 12 u.2.2.2.2.2.2.2.2.1, kx_a g_nodeL cyI 320 u.2.2.2.2.2.2.2.2.2.1, kx_a g_nodeR cyI 320 u.2.2.2.2.2.2.2.2.2.2.1, kx_a g_wasMany cyI 320 u.2.2.2.2.2.2.2.2.2.2.2.1, kx_a g_wasLoss cyI 320 u.2.2.2.2.2.2.2.2.2.2.2.2.1, kx_a g_wasValue cyI 1920 u.2.2.2.2.2.2.2.2.2.2.2.2.2.1, kx_a g_wasNumber cyI 1920 u.2.2.2.2.2.2.2.2.2.2.2.2.2.2] t.heap ∧ va_K (dC, dI) vwCl [(cyI, .int)] t ∧ va_D A [kx_5 h0 g_row m_n m_slots m_thrown g_many g_loss g_less g_voteValue g_voteNumber g_allValue g_allNumber u.2.1 g_nodeL g_nodeR u.1 g_part m_partMany g_wasMany g_wasLoss g_wasValue g_wasNumber g_path m_pathMany g_heavyValue g_heavyTimes m_heavyMany g_fewest g_which g_met m_mostMet, kx_a g_row cyI 160 f, kx_a g_many cyI 324 u.2.2.1, kx_a g_loss cyI 324 u.2.2.2.1, kx_a g_less cyI 324 u.2.2.2.2.1, kx_a g_voteValue cyI 1944 u.2.2.2.2.2.1, kx_a g_voteNumber cyI 1944 u.2.2.2.2.2.2.1, kx_a g_allValue cyI 12 u.2.2.2.2.2.2.2.1, kx_a g_allNumber cyI 12 u.2.2.2.2.2.2.2.2.1, kx_a g_nodeL cyI 320 u.2.2.2.2.2.2.2.2.2.1, kx_a g_nodeR cyI 320 u.2.2.2.2.2.2.2.2.2.2.1, kx_a g_wasMany cyI 320 u.2.2.2.2.2.2.2.2.2.2.2.1, kx_a g_wasLoss cyI 320 u.2.2.2.2.2.2.2.2.2.2.2.2.1, kx_a g_wasValue cyI 1920 u.2.2.2.2.2.2.2.2.2.2.2.2.2.1, kx_a g_wasNumber cyI 1920 u.2.2.2.2.2.2.2.2.2.2.2.2.2.2]) A) := by
  refine kx_stQ (ws := wsX5_keeps) (cc := cX5_keeps) (maxL := 3) (ret := none) (by decide) rfl (Nat.le_of_ble_eq_true rfl) ?_
  intro p e s m below meth c A ls hx hb hr hlocks hts hown hml hA hS hP hK hD hl
  have hown : s.vm.findClass RX5 = some m.cls := hown
  have hl : lv_has ls 3 [(0, .ref h0)] := hl
  have hf_13 := hts (.fieldLink RX5 13 "MajorityIndexModel" "slots" "I") (List.mem_of_getElem? (i := 1) rfl)
  have hi_5 : ∀ w ∈ u_ws RX5 TX5 30, w ∈ wsX5_keeps := fun w h => List.mem_cons_of_mem _ (List.mem_append_right _ h)
  have hf_101 := hts (.fieldLink RX5 101 "MajorityIndexModel" "nodes" "I") (List.mem_of_getElem? (i := 2) rfl)
  have hf_47 := hts (.fieldLink RX5 47 "MajorityIndexModel" "wasMany" "[I") (List.mem_of_getElem? (i := 3) rfl)
  have hf_17 := hts (.fieldLink RX5 17 "MajorityIndexModel" "many" "[I") (List.mem_of_getElem? (i := 4) rfl)
  have hf_50 := hts (.fieldLink RX5 50 "MajorityIndexModel" "wasLoss" "[I") (List.mem_of_getElem? (i := 5) rfl)
  have hf_20 := hts (.fieldLink RX5 20 "MajorityIndexModel" "loss" "[I") (List.mem_of_getElem? (i := 6) rfl)
  have hf_53 := hts (.fieldLink RX5 53 "MajorityIndexModel" "wasValue" "[I") (List.mem_of_getElem? (i := 7) rfl)
  have hf_26 := hts (.fieldLink RX5 26 "MajorityIndexModel" "voteValue" "[I") (List.mem_of_getElem? (i := 8) rfl)
  have hf_56 := hts (.fieldLink RX5 56 "MajorityIndexModel" "wasNumber" "[I") (List.mem_of_getElem? (i := 9) rfl)
  have hf_29 := hts (.fieldLink RX5 29 "MajorityIndexModel" "voteNumber" "[I") (List.mem_of_getElem? (i := 10) rfl)
  refine lv_aload_n hx hb dX5_keeps_0 rfl (lv_at hl 0 rfl) ?_
  refine lv_aload_n hx hb dX5_keeps_1 rfl (lv_at hl 0 rfl) ?_
  refine va_get (D := (dC, dI)) (ci := 5) (v := .int m_slots) (C := RX5) (T := TX5) (N := 30) hx hb hts hi_5 hown hK hP 0 rfl rfl 2 (by decide) hf_13 (fun _ h9 => h9) rfl dX5_keeps_2 ?_
  obtain ⟨hPc, hDc, hFc, hCc⟩ := kx_preM (wc := [kx_5 h0 g_row m_n m_slots m_thrown g_many g_loss g_less g_voteValue g_voteNumber g_allValue g_allNumber m_allMany g_nodeL g_nodeR m_nodes g_part m_partMany g_wasMany g_wasLoss g_wasValue g_wasNumber g_path m_pathMany g_heavyValue g_heavyTimes m_heavyMany g_fewest g_which g_met m_mostMet, kx_a g_row cyI 160 f, kx_a g_many cyI 324 fm, kx_a g_loss cyI 324 fl, kx_a g_less cyI 324 fe, kx_a g_voteValue cyI 1944 vv, kx_a g_voteNumber cyI 1944 vn, kx_a g_allValue cyI 12 av, kx_a g_allNumber cyI 12 an, kx_a g_nodeL cyI 320 nl, kx_a g_nodeR cyI 320 nr]) hP hD hS hA [true, true, true, true, true, true, true, true, true, true, true, false, false, false, false] rfl
  have hKc := hK
  refine va_callv (va_runV (As := [.int m_slots]) (rest := []) ⟨hx, hb, hml, hown, hts⟩ (kx_un (c_X5_laysAll l dC dI h0 g_row g_many g_loss g_less g_voteValue g_voteNumber g_allValue g_allNumber g_nodeL g_nodeR g_part g_wasMany g_wasLoss g_wasValue g_wasNumber g_path g_heavyValue g_heavyTimes g_fewest g_which g_met m_n m_slots m_thrown m_allMany m_nodes m_partMany m_pathMany m_heavyMany m_mostMet cyI fm fl fe vv vn f av an nl nr m_slots s.heap.size a0 a1 sl0 sl1 s4)) (cwV 1 hts gX5_keeps_X5_laysAll rfl rfl rfl (by decide +kernel) ⟨Nat.le_of_ble_eq_true rfl, Nat.le_of_ble_eq_true rfl⟩) ⟨fun a U g mk q => by obtain ⟨q0, q1, qP, qK, qD⟩ := q; exact ⟨q0, q1, qP, va_K.moved (u := U) (U := U.calling g mk a) (Vm.Alike.refl U.vm) qK, qD⟩, kx_rc5 hKc hPc (q0 := 0) rfl, fun U hU hW => ⟨rfl, by rw [hU], by rw [hU]; exact hPc, va_K.moved hW.alike hKc, hDc.weaken (fun _ _ _ _ => trivial)⟩⟩ rfl rfl hl.1 rfl (lv_room (Nat.le_of_ble_eq_true rfl)) dX5_keeps_5 ⟨Nat.le_of_ble_eq_true rfl, Nat.le_of_ble_eq_true rfl⟩) hS (fun q _ h => hFc q h) hFc (fun u t H1 locs ht hvm w_1 hB hz1 hk1 hS => ?_)
  obtain ⟨o_2, o_3, o_4, o_5, o_6, o_7, o_8, o_9, o_10, o_11, o_12⟩ := u
  dsimp only at w_1 hB
  obtain ⟨hP1, hK1, hD1⟩ := hB
  rw [ht] at hP1
  have hK1 := va_K.moved hvm.symm hK1
  obtain ⟨hP, hD⟩ := kx_joinM (w2 := [kx_5 h0 g_row m_n m_slots m_thrown g_many g_loss g_less g_voteValue g_voteNumber g_allValue g_allNumber o_3 g_nodeL g_nodeR o_2 g_part m_partMany g_wasMany g_wasLoss g_wasValue g_wasNumber g_path m_pathMany g_heavyValue g_heavyTimes m_heavyMany g_fewest g_which g_met m_mostMet, kx_a g_row cyI 160 f, kx_a g_many cyI 324 o_4, kx_a g_loss cyI 324 o_5, kx_a g_less cyI 324 o_6, kx_a g_voteValue cyI 1944 o_7, kx_a g_voteNumber cyI 1944 o_8, kx_a g_allValue cyI 12 o_9, kx_a g_allNumber cyI 12 o_10, kx_a g_nodeL cyI 320 o_11, kx_a g_nodeR cyI 320 o_12, kx_a g_wasMany cyI 320 wm, kx_a g_wasLoss cyI 320 wl, kx_a g_wasValue cyI 1920 wv, kx_a g_wasNumber cyI 1920 wn]) hP hD hP1 hD1 hk1 hFc [true, true, true, true, true, true, true, true, true, true, true, false, false, false, false] hCc rfl
  clear hP1 hD1 hK1 hk1 hz1 hFc hDc hPc hKc hCc
  generalize H1 = H at hP hS ⊢
  have w_1 : mj_L m_slots.toNatClampNeg f o_11 o_12 o_4 o_5 o_6 o_7 o_8 m_n.toInt o_2.toInt ∧ six4 o_4 ∧ 0 ≤ o_2.toInt ∧ o_2.toInt ≤ 319 := w_1
  refine lv_iconst (v := 0) hx hb dX5_keeps_8 (by decide) ?_
  refine lv_istore_n (lv' := [(1, .int 0), (0, .ref h0)]) hx hb dX5_keeps_9 rfl hl (by decide) rfl (fun ls hl => ?_)
  have LP1 : ∀ (n : Nat) (i : Int32) (x_wm : Nat → Int32) (x_wl : Nat → Int32) (x_wv : Nat → Int32) (x_wn : Nat → Int32), (0 ≤ i.toInt) → (o_2.toInt - i.toInt).toNat < n → ∀ (H : Heap) (locs : List Loc), va_P (dC, dI) vwCl [kx_5 h0 g_row m_n m_slots m_thrown g_many g_loss g_less g_voteValue g_voteNumber g_allValue g_allNumber o_3 g_nodeL g_nodeR o_2 g_part m_partMany g_wasMany g_wasLoss g_wasValue g_wasNumber g_path m_pathMany g_heavyValue g_heavyTimes m_heavyMany g_fewest g_which g_met m_mostMet, kx_a g_row cyI 160 f, kx_a g_many cyI 324 o_4, kx_a g_loss cyI 324 o_5, kx_a g_less cyI 324 o_6, kx_a g_voteValue cyI 1944 o_7, kx_a g_voteNumber cyI 1944 o_8, kx_a g_allValue cyI 12 o_9, kx_a g_allNumber cyI 12 o_10, kx_a g_nodeL cyI 320 o_11, kx_a g_nodeR cyI 320 o_12, kx_a g_wasMany cyI 320 x_wm, kx_a g_wasLoss cyI 320 x_wl, kx_a g_wasValue cyI 1920 x_wv, kx_a g_wasNumber cyI 1920 x_wn] H → va_D A [kx_5 h0 g_row m_n m_slots m_thrown g_many g_loss g_less g_voteValue g_voteNumber g_allValue g_allNumber o_3 g_nodeL g_nodeR o_2 g_part m_partMany g_wasMany g_wasLoss g_wasValue g_wasNumber g_path m_pathMany g_heavyValue g_heavyTimes m_heavyMany g_fewest g_which g_met m_mostMet, kx_a g_row cyI 160 f, kx_a g_many cyI 324 o_4, kx_a g_loss cyI 324 o_5, kx_a g_less cyI 324 o_6, kx_a g_voteValue cyI 1944 o_7, kx_a g_voteNumber cyI 1944 o_8, kx_a g_allValue cyI 12 o_9, kx_a g_allNumber cyI 12 o_10, kx_a g_nodeL cyI 320 o_11, kx_a g_nodeR cyI 320 o_12, kx_a g_wasMany cyI 320 x_wm, kx_a g_wasLoss cyI 320 x_wl, kx_a g_wasValue cyI 1920 x_wv, kx_a g_wasNumber cyI 1920 x_wn] → va_S A s.heap H locs → ∀ (ls : Array Slot), lv_has ls 3 [(1, .int i), (0, .ref h0)] → W p l e (headSpec wsX5_keeps ({ frames := 12, cells := 0, slots := 0, locals := 540 })).room s m ([.ref h0] : List Value).toArray below meth c H locs 0 0 (MQ below (va_Qv (fun u : Int32 × Int32 × (Nat → Int32) × (Nat → Int32) × (Nat → Int32) × (Nat → Int32) × (Nat → Int32) × (Nat → Int32) × (Nat → Int32) × (Nat → Int32) × (Nat → Int32) × (Nat → Int32) × (Nat → Int32) × (Nat → Int32) × (Nat → Int32) => six4 u.2.2.1) (fun (u : Int32 × Int32 × (Nat → Int32) × (Nat → Int32) × (Nat → Int32) × (Nat → Int32) × (Nat → Int32) × (Nat → Int32) × (Nat → Int32) × (Nat → Int32) × (Nat → Int32) × (Nat → Int32) × (Nat → Int32) × (Nat → Int32) × (Nat → Int32)) (t : State) => va_P (dC, dI) vwCl [kx_5 h0 g_row m_n m_slots m_thrown g_many g_loss g_less g_voteValue g_voteNumber g_allValue g_allNumber u.2.1 g_nodeL g_nodeR u.1 g_part m_partMany g_wasMany g_wasLoss g_wasValue g_wasNumber g_path m_pathMany g_heavyValue g_heavyTimes m_heavyMany g_fewest g_which g_met m_mostMet, kx_a g_row cyI 160 f, kx_a g_many cyI 324 u.2.2.1, kx_a g_loss cyI 324 u.2.2.2.1, kx_a g_less cyI 324 u.2.2.2.2.1, kx_a g_voteValue cyI 1944 u.2.2.2.2.2.1, kx_a g_voteNumber cyI 1944 u.2.2.2.2.2.2.1, kx_a g_allValue cyI 12 u.2.2.2.2.2.2.2.1, kx_a g_allNumber cyI 12 u.2.2.2.2.2.2.2.2.1, kx_a g_nodeL cyI 320 u.2.2.2.2.2.2.2.2.2.1, kx_a g_nodeR cyI 320 u.2.2.2.2.2.2.2.2.2.2.1, kx_a g_wasMany cyI 320 u.2.2.2.2.2.2.2.2.2.2.2.1, kx_a g_wasLoss cyI 320 u.2.2.2.2.2.2.2.2.2.2.2.2.1, kx_a g_wasValue cyI 1920 u.2.2.2.2.2.2.2.2.2.2.2.2.2.1, kx_a g_wasNumber cyI 1920 u.2.2.2.2.2.2.2.2.2.2.2.2.2.2] t.heap ∧ va_K (dC, dI) vwCl [(cyI, .int)] t ∧ va_D A [kx_5 h0 g_row m_n m_slots m_thrown g_many g_loss g_less g_voteValue g_voteNumber g_allValue g_allNumber u.2.1 g_nodeL g_nodeR u.1 g_part m_partMany g_wasMany g_wasLoss g_wasValue g_wasNumber g_path m_pathMany g_heavyValue g_heavyTimes m_heavyMany g_fewest g_which g_met m_mostMet, kx_a g_row cyI 160 f, kx_a g_many cyI 324 u.2.2.1, kx_a g_loss cyI 324 u.2.2.2.1, kx_a g_less cyI 324 u.2.2.2.2.1, kx_a g_voteValue cyI 1944 u.2.2.2.2.2.1, kx_a g_voteNumber cyI 1944 u.2.2.2.2.2.2.1, kx_a g_allValue cyI 12 u.2.2.2.2.2.2.2.1, kx_a g_allNumber cyI 12 u.2.2.2.2.2.2.2.2.1, kx_a g_nodeL cyI 320 u.2.2.2.2.2.2.2.2.2.1, kx_a g_nodeR cyI 320 u.2.2.2.2.2.2.2.2.2.2.1, kx_a g_wasMany cyI 320 u.2.2.2.2.2.2.2.2.2.2.2.1, kx_a g_wasLoss cyI 320 u.2.2.2.2.2.2.2.2.2.2.2.2.1, kx_a g_wasValue cyI 1920 u.2.2.2.2.2.2.2.2.2.2.2.2.2.1, kx_a g_wasNumber cyI 1920 u.2.2.2.2.2.2.2.2.2.2.2.2.2.2]) A) ([.ref h0] : List Value).toArray s 0 0 A) (F0 m 10 ls []) := by
    intro n
    induction n with
    | zero => intro i x_wm x_wl x_wv x_wn LP1_h0 hn; exact absurd hn (Nat.not_lt_zero _)
    | succ n ih1 =>
      intro i x_wm x_wl x_wv x_wn LP1_h0 hn1 H locs hP hD hS ls hl
      refine lv_iload_n hx hb dX5_keeps_10 rfl (lv_at hl 0 rfl) ?_
      refine lv_aload_n hx hb dX5_keeps_11 rfl (lv_at hl 1 rfl) ?_
      refine va_get (D := (dC, dI)) (ci := 5) (v := .int o_2) (C := RX5) (T := TX5) (N := 30) hx hb hts hi_5 hown hK hP 0 rfl rfl 14 (by decide) hf_101 (fun _ h9 => h9) rfl dX5_keeps_12 ?_
      refine lv_icmp_ge (tgt := 110) hx hb dX5_keeps_15 (by decide) (fun c_13 => ?_) (fun c_13 => ?_)
      · have i_13 : o_2.toInt ≤ i.toInt := kc_le c_13
        have hP9 := hP
        have hD9 := hD
        have hK9 := hK
        exact W.vret hx hb hr (hlocks := hlocks) (fun t ht hW => ⟨⟨(o_2, o_3, o_4, o_5, o_6, o_7, o_8, o_9, o_10, o_11, o_12, x_wm, x_wl, x_wv, x_wn), rfl, w_1.2.1, by rw [ht]; exact hP9, va_K.moved hW.alike hK9, hD9⟩, hS.F ht⟩) hS.2.2 dX5_keeps_110
      · have i_13 : i.toInt < o_2.toInt := kc_nle c_13
        refine lv_aload_n hx hb dX5_keeps_18 rfl (lv_at hl 1 rfl) ?_
        refine va_get (D := (dC, dI)) (ci := 5) (v := .ref g_wasMany) (C := RX5) (T := TX5) (N := 30) hx hb hts hi_5 hown hK hP 0 rfl rfl 17 (by decide) hf_47 (fun _ h9 => h9) rfl dX5_keeps_19 ?_
        refine lv_iload_n hx hb dX5_keeps_22 rfl (lv_at hl 0 rfl) ?_
        refine lv_aload_n hx hb dX5_keeps_23 rfl (lv_at hl 1 rfl) ?_
        refine va_get (D := (dC, dI)) (ci := 5) (v := .ref g_many) (C := RX5) (T := TX5) (N := 30) hx hb hts hi_5 hown hK hP 0 rfl rfl 4 (by decide) hf_17 (fun _ h9 => h9) rfl dX5_keeps_24 ?_
        refine lv_iload_n hx hb dX5_keeps_27 rfl (lv_at hl 0 rfl) ?_
        refine va_iald hx hb hK hP 2 0 rfl rfl (ki_in (om_10 LP1_h0) (om_424 w_1.2.2.2 i_13)) dX5_keeps_28 ?_
        refine lv_topi (fun y_14 ey_14 => ?_)
        have j_14 : y_14.toInt = (o_4 i.toNatClampNeg).toInt := congrArg Int32.toInt ey_14
        have n_15 : (i.toNatClampNeg : Int) = i.toInt := ki_nat _ rfl (om_10 LP1_h0)
        have i_16 := w_1.2.1 i.toNatClampNeg (om_ln n_15 (om_424 w_1.2.2.2 i_13))
        refine va_iast hx hb hK hP hD hS 11 0 rfl rfl (ki_in (om_10 LP1_h0) (om_425 w_1.2.2.2 i_13)) dX5_keeps_29 (fun H locs hP hD hS => ?_)
        obtain ⟨hP, hD⟩ := kx_re (w2 := [kx_5 h0 g_row m_n m_slots m_thrown g_many g_loss g_less g_voteValue g_voteNumber g_allValue g_allNumber o_3 g_nodeL g_nodeR o_2 g_part m_partMany g_wasMany g_wasLoss g_wasValue g_wasNumber g_path m_pathMany g_heavyValue g_heavyTimes m_heavyMany g_fewest g_which g_met m_mostMet, kx_a g_row cyI 160 f, kx_a g_many cyI 324 o_4, kx_a g_loss cyI 324 o_5, kx_a g_less cyI 324 o_6, kx_a g_voteValue cyI 1944 o_7, kx_a g_voteNumber cyI 1944 o_8, kx_a g_allValue cyI 12 o_9, kx_a g_allNumber cyI 12 o_10, kx_a g_nodeL cyI 320 o_11, kx_a g_nodeR cyI 320 o_12, kx_a g_wasMany cyI 320 (upd x_wm i.toNatClampNeg y_14), kx_a g_wasLoss cyI 320 x_wl, kx_a g_wasValue cyI 1920 x_wv, kx_a g_wasNumber cyI 1920 x_wn]) hP hD rfl
        refine lv_aload_n hx hb dX5_keeps_30 rfl (lv_at hl 1 rfl) ?_
        refine va_get (D := (dC, dI)) (ci := 5) (v := .ref g_wasLoss) (C := RX5) (T := TX5) (N := 30) hx hb hts hi_5 hown hK hP 0 rfl rfl 18 (by decide) hf_50 (fun _ h9 => h9) rfl dX5_keeps_31 ?_
        refine lv_iload_n hx hb dX5_keeps_34 rfl (lv_at hl 0 rfl) ?_
        refine lv_aload_n hx hb dX5_keeps_35 rfl (lv_at hl 1 rfl) ?_
        refine va_get (D := (dC, dI)) (ci := 5) (v := .ref g_loss) (C := RX5) (T := TX5) (N := 30) hx hb hts hi_5 hown hK hP 0 rfl rfl 5 (by decide) hf_20 (fun _ h9 => h9) rfl dX5_keeps_36 ?_
        refine lv_iload_n hx hb dX5_keeps_39 rfl (lv_at hl 0 rfl) ?_
        refine va_iald hx hb hK hP 3 0 rfl rfl (ki_in (om_10 LP1_h0) (om_424 w_1.2.2.2 i_13)) dX5_keeps_40 ?_
        refine lv_topi (fun y_17 ey_17 => ?_)
        have j_17 : y_17.toInt = (o_5 i.toNatClampNeg).toInt := congrArg Int32.toInt ey_17
        refine va_iast hx hb hK hP hD hS 12 0 rfl rfl (ki_in (om_10 LP1_h0) (om_425 w_1.2.2.2 i_13)) dX5_keeps_41 (fun H locs hP hD hS => ?_)
        obtain ⟨hP, hD⟩ := kx_re (w2 := [kx_5 h0 g_row m_n m_slots m_thrown g_many g_loss g_less g_voteValue g_voteNumber g_allValue g_allNumber o_3 g_nodeL g_nodeR o_2 g_part m_partMany g_wasMany g_wasLoss g_wasValue g_wasNumber g_path m_pathMany g_heavyValue g_heavyTimes m_heavyMany g_fewest g_which g_met m_mostMet, kx_a g_row cyI 160 f, kx_a g_many cyI 324 o_4, kx_a g_loss cyI 324 o_5, kx_a g_less cyI 324 o_6, kx_a g_voteValue cyI 1944 o_7, kx_a g_voteNumber cyI 1944 o_8, kx_a g_allValue cyI 12 o_9, kx_a g_allNumber cyI 12 o_10, kx_a g_nodeL cyI 320 o_11, kx_a g_nodeR cyI 320 o_12, kx_a g_wasMany cyI 320 (upd x_wm i.toNatClampNeg y_14), kx_a g_wasLoss cyI 320 (upd x_wl i.toNatClampNeg y_17), kx_a g_wasValue cyI 1920 x_wv, kx_a g_wasNumber cyI 1920 x_wn]) hP hD rfl
        refine lv_iconst (v := 0) hx hb dX5_keeps_42 (by decide) ?_
        refine lv_istore_n (lv' := [(2, .int 0), (1, .int i), (0, .ref h0)]) hx hb dX5_keeps_43 rfl hl (by decide) rfl (fun ls hl => ?_)
        have LP2 : ∀ (n : Nat) (j : Int32) (y_wv : Nat → Int32) (y_wn : Nat → Int32), (0 ≤ j.toInt) → (6 - j.toInt).toNat < n → ∀ (H : Heap) (locs : List Loc), va_P (dC, dI) vwCl [kx_5 h0 g_row m_n m_slots m_thrown g_many g_loss g_less g_voteValue g_voteNumber g_allValue g_allNumber o_3 g_nodeL g_nodeR o_2 g_part m_partMany g_wasMany g_wasLoss g_wasValue g_wasNumber g_path m_pathMany g_heavyValue g_heavyTimes m_heavyMany g_fewest g_which g_met m_mostMet, kx_a g_row cyI 160 f, kx_a g_many cyI 324 o_4, kx_a g_loss cyI 324 o_5, kx_a g_less cyI 324 o_6, kx_a g_voteValue cyI 1944 o_7, kx_a g_voteNumber cyI 1944 o_8, kx_a g_allValue cyI 12 o_9, kx_a g_allNumber cyI 12 o_10, kx_a g_nodeL cyI 320 o_11, kx_a g_nodeR cyI 320 o_12, kx_a g_wasMany cyI 320 (upd x_wm i.toNatClampNeg y_14), kx_a g_wasLoss cyI 320 (upd x_wl i.toNatClampNeg y_17), kx_a g_wasValue cyI 1920 y_wv, kx_a g_wasNumber cyI 1920 y_wn] H → va_D A [kx_5 h0 g_row m_n m_slots m_thrown g_many g_loss g_less g_voteValue g_voteNumber g_allValue g_allNumber o_3 g_nodeL g_nodeR o_2 g_part m_partMany g_wasMany g_wasLoss g_wasValue g_wasNumber g_path m_pathMany g_heavyValue g_heavyTimes m_heavyMany g_fewest g_which g_met m_mostMet, kx_a g_row cyI 160 f, kx_a g_many cyI 324 o_4, kx_a g_loss cyI 324 o_5, kx_a g_less cyI 324 o_6, kx_a g_voteValue cyI 1944 o_7, kx_a g_voteNumber cyI 1944 o_8, kx_a g_allValue cyI 12 o_9, kx_a g_allNumber cyI 12 o_10, kx_a g_nodeL cyI 320 o_11, kx_a g_nodeR cyI 320 o_12, kx_a g_wasMany cyI 320 (upd x_wm i.toNatClampNeg y_14), kx_a g_wasLoss cyI 320 (upd x_wl i.toNatClampNeg y_17), kx_a g_wasValue cyI 1920 y_wv, kx_a g_wasNumber cyI 1920 y_wn] → va_S A s.heap H locs → ∀ (ls : Array Slot), lv_has ls 3 [(2, .int j), (1, .int i), (0, .ref h0)] → W p l e (headSpec wsX5_keeps ({ frames := 12, cells := 0, slots := 0, locals := 540 })).room s m ([.ref h0] : List Value).toArray below meth c H locs 0 0 (MQ below (va_Qv (fun u : Int32 × Int32 × (Nat → Int32) × (Nat → Int32) × (Nat → Int32) × (Nat → Int32) × (Nat → Int32) × (Nat → Int32) × (Nat → Int32) × (Nat → Int32) × (Nat → Int32) × (Nat → Int32) × (Nat → Int32) × (Nat → Int32) × (Nat → Int32) => six4 u.2.2.1) (fun (u : Int32 × Int32 × (Nat → Int32) × (Nat → Int32) × (Nat → Int32) × (Nat → Int32) × (Nat → Int32) × (Nat → Int32) × (Nat → Int32) × (Nat → Int32) × (Nat → Int32) × (Nat → Int32) × (Nat → Int32) × (Nat → Int32) × (Nat → Int32)) (t : State) => va_P (dC, dI) vwCl [kx_5 h0 g_row m_n m_slots m_thrown g_many g_loss g_less g_voteValue g_voteNumber g_allValue g_allNumber u.2.1 g_nodeL g_nodeR u.1 g_part m_partMany g_wasMany g_wasLoss g_wasValue g_wasNumber g_path m_pathMany g_heavyValue g_heavyTimes m_heavyMany g_fewest g_which g_met m_mostMet, kx_a g_row cyI 160 f, kx_a g_many cyI 324 u.2.2.1, kx_a g_loss cyI 324 u.2.2.2.1, kx_a g_less cyI 324 u.2.2.2.2.1, kx_a g_voteValue cyI 1944 u.2.2.2.2.2.1, kx_a g_voteNumber cyI 1944 u.2.2.2.2.2.2.1, kx_a g_allValue cyI 12 u.2.2.2.2.2.2.2.1, kx_a g_allNumber cyI 12 u.2.2.2.2.2.2.2.2.1, kx_a g_nodeL cyI 320 u.2.2.2.2.2.2.2.2.2.1, kx_a g_nodeR cyI 320 u.2.2.2.2.2.2.2.2.2.2.1, kx_a g_wasMany cyI 320 u.2.2.2.2.2.2.2.2.2.2.2.1, kx_a g_wasLoss cyI 320 u.2.2.2.2.2.2.2.2.2.2.2.2.1, kx_a g_wasValue cyI 1920 u.2.2.2.2.2.2.2.2.2.2.2.2.2.1, kx_a g_wasNumber cyI 1920 u.2.2.2.2.2.2.2.2.2.2.2.2.2.2] t.heap ∧ va_K (dC, dI) vwCl [(cyI, .int)] t ∧ va_D A [kx_5 h0 g_row m_n m_slots m_thrown g_many g_loss g_less g_voteValue g_voteNumber g_allValue g_allNumber u.2.1 g_nodeL g_nodeR u.1 g_part m_partMany g_wasMany g_wasLoss g_wasValue g_wasNumber g_path m_pathMany g_heavyValue g_heavyTimes m_heavyMany g_fewest g_which g_met m_mostMet, kx_a g_row cyI 160 f, kx_a g_many cyI 324 u.2.2.1, kx_a g_loss cyI 324 u.2.2.2.1, kx_a g_less cyI 324 u.2.2.2.2.1, kx_a g_voteValue cyI 1944 u.2.2.2.2.2.1, kx_a g_voteNumber cyI 1944 u.2.2.2.2.2.2.1, kx_a g_allValue cyI 12 u.2.2.2.2.2.2.2.1, kx_a g_allNumber cyI 12 u.2.2.2.2.2.2.2.2.1, kx_a g_nodeL cyI 320 u.2.2.2.2.2.2.2.2.2.1, kx_a g_nodeR cyI 320 u.2.2.2.2.2.2.2.2.2.2.1, kx_a g_wasMany cyI 320 u.2.2.2.2.2.2.2.2.2.2.2.1, kx_a g_wasLoss cyI 320 u.2.2.2.2.2.2.2.2.2.2.2.2.1, kx_a g_wasValue cyI 1920 u.2.2.2.2.2.2.2.2.2.2.2.2.2.1, kx_a g_wasNumber cyI 1920 u.2.2.2.2.2.2.2.2.2.2.2.2.2.2]) A) ([.ref h0] : List Value).toArray s 0 0 A) (F0 m 44 ls []) := by
          intro n
          induction n with
          | zero => intro j y_wv y_wn LP2_h0 hn; exact absurd hn (Nat.not_lt_zero _)
          | succ n ih2 =>
            intro j y_wv y_wn LP2_h0 hn2 H locs hP hD hS ls hl
            refine lv_iload_n hx hb dX5_keeps_44 rfl (lv_at hl 0 rfl) ?_
            refine lv_aload_n hx hb dX5_keeps_45 rfl (lv_at hl 2 rfl) ?_
            refine va_get (D := (dC, dI)) (ci := 5) (v := .ref g_many) (C := RX5) (T := TX5) (N := 30) hx hb hts hi_5 hown hK hP 0 rfl rfl 4 (by decide) hf_17 (fun _ h9 => h9) rfl dX5_keeps_46 ?_
            refine lv_iload_n hx hb dX5_keeps_49 rfl (lv_at hl 1 rfl) ?_
            refine va_iald hx hb hK hP 2 0 rfl rfl (ki_in (om_10 LP1_h0) (om_424 w_1.2.2.2 i_13)) dX5_keeps_50 ?_
            refine lv_topi (fun y_18 ey_18 => ?_)
            have j_18 : y_18.toInt = (o_4 i.toNatClampNeg).toInt := congrArg Int32.toInt ey_18
            have n_19 : (i.toNatClampNeg : Int) = i.toInt := ki_nat _ rfl (om_10 LP1_h0)
            have i_20 := w_1.2.1 i.toNatClampNeg (om_ln n_19 (om_424 w_1.2.2.2 i_13))
            refine lv_icmp_ge (tgt := 104) hx hb dX5_keeps_51 (by decide) (fun c_21 => ?_) (fun c_21 => ?_)
            · have i_21 : y_18.toInt ≤ j.toInt := kc_le c_21
              obtain ⟨x_22, ex_22⟩ : ∃ y : Int32, y = i + 1 := ⟨_, rfl⟩
              have i_22 : x_22.toInt = i.toInt + 1 := ki_add ex_22 rfl rfl (om_13 LP1_h0) (om_125 w_1.2.2.2 i_13)
              refine lv_iinc (v := x_22) (lv' := [(1, .int x_22), (2, .int j), (0, .ref h0)]) hx hb dX5_keeps_104 hl (k := 1) rfl (by rw [ex_22]; rfl) (by decide) rfl (fun ls hl => ?_)
              refine lv_goto (tgt := 10) hx hb dX5_keeps_107 (by decide) ?_
              exact ih1 x_22 (upd x_wm i.toNatClampNeg y_14) (upd x_wl i.toNatClampNeg y_17) y_wv y_wn (om_34 LP1_h0 i_22) (om_mu hn1 (om_5 i_22) (om_6 i_13)) _ _ hP hD hS ls (lv_sub hl [0, 2] rfl)
            · have i_21 : j.toInt < y_18.toInt := kc_nle c_21
              refine lv_aload_n hx hb dX5_keeps_54 rfl (lv_at hl 2 rfl) ?_
              refine va_get (D := (dC, dI)) (ci := 5) (v := .ref g_wasValue) (C := RX5) (T := TX5) (N := 30) hx hb hts hi_5 hown hK hP 0 rfl rfl 19 (by decide) hf_53 (fun _ h9 => h9) rfl dX5_keeps_55 ?_
              refine lv_bipush (v := 6) hx hb dX5_keeps_58 (by decide) ?_
              refine lv_iload_n hx hb dX5_keeps_60 rfl (lv_at hl 1 rfl) ?_
              refine lv_imul hx hb dX5_keeps_61 ?_
              refine lv_topi (fun y_23 ey_23 => ?_)
              have i_23 : y_23.toInt = 6 * i.toInt := ki_mul ey_23 rfl rfl (om_247 LP1_h0) (om_426 w_1.2.2.2 i_13)
              refine lv_iload_n hx hb dX5_keeps_62 rfl (lv_at hl 0 rfl) ?_
              refine lv_iadd hx hb dX5_keeps_63 ?_
              refine lv_topi (fun y_24 ey_24 => ?_)
              have i_24 : y_24.toInt = y_23.toInt + j.toInt := ki_add ey_24 rfl rfl (om_251 LP1_h0 LP2_h0 i_23) (om_427 w_1.2.2.2 i_13 j_18 i_20.2 i_21 i_23)
              refine lv_aload_n hx hb dX5_keeps_64 rfl (lv_at hl 2 rfl) ?_
              refine va_get (D := (dC, dI)) (ci := 5) (v := .ref g_voteValue) (C := RX5) (T := TX5) (N := 30) hx hb hts hi_5 hown hK hP 0 rfl rfl 7 (by decide) hf_26 (fun _ h9 => h9) rfl dX5_keeps_65 ?_
              refine lv_bipush (v := 6) hx hb dX5_keeps_68 (by decide) ?_
              refine lv_iload_n hx hb dX5_keeps_70 rfl (lv_at hl 1 rfl) ?_
              refine lv_imul hx hb dX5_keeps_71 ?_
              refine lv_topi (fun y_25 ey_25 => ?_)
              have i_25 : y_25.toInt = 6 * i.toInt := ki_mul ey_25 rfl rfl (om_247 LP1_h0) (om_426 w_1.2.2.2 i_13)
              refine lv_iload_n hx hb dX5_keeps_72 rfl (lv_at hl 0 rfl) ?_
              refine lv_iadd hx hb dX5_keeps_73 ?_
              refine lv_topi (fun y_26 ey_26 => ?_)
              have i_26 : y_26.toInt = y_25.toInt + j.toInt := ki_add ey_26 rfl rfl (om_251 LP1_h0 LP2_h0 i_25) (om_427 w_1.2.2.2 i_13 j_18 i_20.2 i_21 i_25)
              refine va_iald hx hb hK hP 5 0 rfl rfl (ki_in (om_253 LP1_h0 LP2_h0 i_25 i_26) (om_428 w_1.2.2.2 i_13 j_18 i_20.2 i_21 i_25 i_26)) dX5_keeps_74 ?_
              refine lv_topi (fun y_27 ey_27 => ?_)
              have j_27 : y_27.toInt = (o_7 y_26.toNatClampNeg).toInt := congrArg Int32.toInt ey_27
              refine va_iast hx hb hK hP hD hS 13 0 rfl rfl (ki_in (om_253 LP1_h0 LP2_h0 i_23 i_24) (om_429 w_1.2.2.2 i_13 j_18 i_20.2 i_21 i_23 i_24)) dX5_keeps_75 (fun H locs hP hD hS => ?_)
              obtain ⟨hP, hD⟩ := kx_re (w2 := [kx_5 h0 g_row m_n m_slots m_thrown g_many g_loss g_less g_voteValue g_voteNumber g_allValue g_allNumber o_3 g_nodeL g_nodeR o_2 g_part m_partMany g_wasMany g_wasLoss g_wasValue g_wasNumber g_path m_pathMany g_heavyValue g_heavyTimes m_heavyMany g_fewest g_which g_met m_mostMet, kx_a g_row cyI 160 f, kx_a g_many cyI 324 o_4, kx_a g_loss cyI 324 o_5, kx_a g_less cyI 324 o_6, kx_a g_voteValue cyI 1944 o_7, kx_a g_voteNumber cyI 1944 o_8, kx_a g_allValue cyI 12 o_9, kx_a g_allNumber cyI 12 o_10, kx_a g_nodeL cyI 320 o_11, kx_a g_nodeR cyI 320 o_12, kx_a g_wasMany cyI 320 (upd x_wm i.toNatClampNeg y_14), kx_a g_wasLoss cyI 320 (upd x_wl i.toNatClampNeg y_17), kx_a g_wasValue cyI 1920 (upd y_wv y_24.toNatClampNeg y_27), kx_a g_wasNumber cyI 1920 y_wn]) hP hD rfl
              refine lv_aload_n hx hb dX5_keeps_76 rfl (lv_at hl 2 rfl) ?_
              refine va_get (D := (dC, dI)) (ci := 5) (v := .ref g_wasNumber) (C := RX5) (T := TX5) (N := 30) hx hb hts hi_5 hown hK hP 0 rfl rfl 20 (by decide) hf_56 (fun _ h9 => h9) rfl dX5_keeps_77 ?_
              refine lv_bipush (v := 6) hx hb dX5_keeps_80 (by decide) ?_
              refine lv_iload_n hx hb dX5_keeps_82 rfl (lv_at hl 1 rfl) ?_
              refine lv_imul hx hb dX5_keeps_83 ?_
              refine lv_topi (fun y_28 ey_28 => ?_)
              have i_28 : y_28.toInt = 6 * i.toInt := ki_mul ey_28 rfl rfl (om_247 LP1_h0) (om_426 w_1.2.2.2 i_13)
              refine lv_iload_n hx hb dX5_keeps_84 rfl (lv_at hl 0 rfl) ?_
              refine lv_iadd hx hb dX5_keeps_85 ?_
              refine lv_topi (fun y_29 ey_29 => ?_)
              have i_29 : y_29.toInt = y_28.toInt + j.toInt := ki_add ey_29 rfl rfl (om_251 LP1_h0 LP2_h0 i_28) (om_427 w_1.2.2.2 i_13 j_18 i_20.2 i_21 i_28)
              refine lv_aload_n hx hb dX5_keeps_86 rfl (lv_at hl 2 rfl) ?_
              refine va_get (D := (dC, dI)) (ci := 5) (v := .ref g_voteNumber) (C := RX5) (T := TX5) (N := 30) hx hb hts hi_5 hown hK hP 0 rfl rfl 8 (by decide) hf_29 (fun _ h9 => h9) rfl dX5_keeps_87 ?_
              refine lv_bipush (v := 6) hx hb dX5_keeps_90 (by decide) ?_
              refine lv_iload_n hx hb dX5_keeps_92 rfl (lv_at hl 1 rfl) ?_
              refine lv_imul hx hb dX5_keeps_93 ?_
              refine lv_topi (fun y_30 ey_30 => ?_)
              have i_30 : y_30.toInt = 6 * i.toInt := ki_mul ey_30 rfl rfl (om_247 LP1_h0) (om_426 w_1.2.2.2 i_13)
              refine lv_iload_n hx hb dX5_keeps_94 rfl (lv_at hl 0 rfl) ?_
              refine lv_iadd hx hb dX5_keeps_95 ?_
              refine lv_topi (fun y_31 ey_31 => ?_)
              have i_31 : y_31.toInt = y_30.toInt + j.toInt := ki_add ey_31 rfl rfl (om_251 LP1_h0 LP2_h0 i_30) (om_427 w_1.2.2.2 i_13 j_18 i_20.2 i_21 i_30)
              refine va_iald hx hb hK hP 6 0 rfl rfl (ki_in (om_253 LP1_h0 LP2_h0 i_30 i_31) (om_428 w_1.2.2.2 i_13 j_18 i_20.2 i_21 i_30 i_31)) dX5_keeps_96 ?_
              refine lv_topi (fun y_32 ey_32 => ?_)
              have j_32 : y_32.toInt = (o_8 y_31.toNatClampNeg).toInt := congrArg Int32.toInt ey_32
              refine va_iast hx hb hK hP hD hS 14 0 rfl rfl (ki_in (om_253 LP1_h0 LP2_h0 i_28 i_29) (om_429 w_1.2.2.2 i_13 j_18 i_20.2 i_21 i_28 i_29)) dX5_keeps_97 (fun H locs hP hD hS => ?_)
              obtain ⟨hP, hD⟩ := kx_re (w2 := [kx_5 h0 g_row m_n m_slots m_thrown g_many g_loss g_less g_voteValue g_voteNumber g_allValue g_allNumber o_3 g_nodeL g_nodeR o_2 g_part m_partMany g_wasMany g_wasLoss g_wasValue g_wasNumber g_path m_pathMany g_heavyValue g_heavyTimes m_heavyMany g_fewest g_which g_met m_mostMet, kx_a g_row cyI 160 f, kx_a g_many cyI 324 o_4, kx_a g_loss cyI 324 o_5, kx_a g_less cyI 324 o_6, kx_a g_voteValue cyI 1944 o_7, kx_a g_voteNumber cyI 1944 o_8, kx_a g_allValue cyI 12 o_9, kx_a g_allNumber cyI 12 o_10, kx_a g_nodeL cyI 320 o_11, kx_a g_nodeR cyI 320 o_12, kx_a g_wasMany cyI 320 (upd x_wm i.toNatClampNeg y_14), kx_a g_wasLoss cyI 320 (upd x_wl i.toNatClampNeg y_17), kx_a g_wasValue cyI 1920 (upd y_wv y_24.toNatClampNeg y_27), kx_a g_wasNumber cyI 1920 (upd y_wn y_29.toNatClampNeg y_32)]) hP hD rfl
              obtain ⟨x_33, ex_33⟩ : ∃ y : Int32, y = j + 1 := ⟨_, rfl⟩
              have i_33 : x_33.toInt = j.toInt + 1 := ki_add ex_33 rfl rfl (om_13 LP2_h0) (om_101 j_18 i_20.2 i_21)
              refine lv_iinc (v := x_33) (lv' := [(2, .int x_33), (1, .int i), (0, .ref h0)]) hx hb dX5_keeps_98 hl (k := 0) rfl (by rw [ex_33]; rfl) (by decide) rfl (fun ls hl => ?_)
              refine lv_goto (tgt := 44) hx hb dX5_keeps_101 (by decide) ?_
              exact ih2 x_33 (upd y_wv y_24.toNatClampNeg y_27) (upd y_wn y_29.toNatClampNeg y_32) (om_34 LP2_h0 i_33) (om_mu hn2 (om_102 i_33) (om_103 j_18 i_20.2 i_21)) _ _ hP hD hS ls (lv_sub hl [0, 1, 2] rfl)
        have k_34 : (0 : Int32).toInt = 0 := rfl
        exact LP2 ((6 - 0 : Int).toNat + 1) 0 x_wv x_wn om_35 (Nat.lt_succ_self _) _ _ hP hD hS ls (lv_sub hl [0, 1, 2] rfl)
  have k_35 : (0 : Int32).toInt = 0 := rfl
  exact LP1 ((o_2.toInt - 0 : Int).toNat + 1) 0 wm wl wv wn om_35 (Nat.lt_succ_self _) _ _ hP hD hS ls (lv_sub hl [0, 1] rfl)

set_option maxHeartbeats 4000000 in
set_option maxRecDepth 100000 in
theorem c_X5_others (l : Launch) (dC : Nat → ClassId) (dI : Nat → Nat → Nat) (h0 : Nat) (g_row : Nat) (g_many : Nat) (g_loss : Nat) (g_less : Nat) (g_voteValue : Nat) (g_voteNumber : Nat) (g_allValue : Nat) (g_allNumber : Nat) (g_nodeL : Nat) (g_nodeR : Nat) (g_part : Nat) (g_wasMany : Nat) (g_wasLoss : Nat) (g_wasValue : Nat) (g_wasNumber : Nat) (g_path : Nat) (g_heavyValue : Nat) (g_heavyTimes : Nat) (g_fewest : Nat) (g_which : Nat) (g_met : Nat) (m_n : Int32) (m_slots : Int32) (m_thrown : Int32) (m_allMany : Int32) (m_nodes : Int32) (m_partMany : Int32) (m_pathMany : Int32) (m_heavyMany : Int32) (m_mostMet : Int32) (cyI : ClassId) (fm : Nat → Int32) (fl : Nat → Int32) (fe : Nat → Int32) (vv : Nat → Int32) (vn : Nat → Int32) (f : Nat → Int32) (av : Nat → Int32) (an : Nat → Int32) (nl : Nat → Int32) (nr : Nat → Int32) (wm : Nat → Int32) (wl : Nat → Int32) (wv : Nat → Int32) (wn : Nat → Int32) (sz : Nat) (a0 : 0 ≤ m_n.toInt) (a1 : m_n.toInt ≤ 160) (sl0 : 1 ≤ m_slots.toInt) (sl1 : m_slots.toInt ≤ 6) (s4 : six4 fm) : kx_MQ l (dC, dI) yX5_others wsX5_others ({ frames := 12, cells := 0, slots := 0, locals := 540 }) [.ref h0] [kx_5 h0 g_row m_n m_slots m_thrown g_many g_loss g_less g_voteValue g_voteNumber g_allValue g_allNumber m_allMany g_nodeL g_nodeR m_nodes g_part m_partMany g_wasMany g_wasLoss g_wasValue g_wasNumber g_path m_pathMany g_heavyValue g_heavyTimes m_heavyMany g_fewest g_which g_met m_mostMet, kx_a g_row cyI 160 f, kx_a g_many cyI 324 fm, kx_a g_loss cyI 324 fl, kx_a g_less cyI 324 fe, kx_a g_voteValue cyI 1944 vv, kx_a g_voteNumber cyI 1944 vn, kx_a g_allValue cyI 12 av, kx_a g_allNumber cyI 12 an, kx_a g_nodeL cyI 320 nl, kx_a g_nodeR cyI 320 nr, kx_a g_wasMany cyI 320 wm, kx_a g_wasLoss cyI 320 wl, kx_a g_wasValue cyI 1920 wv, kx_a g_wasNumber cyI 1920 wn] [(cyI, .int)] sz (fun A => va_Qi (fun (r : Int32) (u : Int32 × Int32 × (Nat → Int32) × (Nat → Int32) × (Nat → Int32) × (Nat → Int32) × (Nat → Int32) × (Nat → Int32) × (Nat → Int32) × (Nat → Int32) × (Nat → Int32)) => six4 u.2.2.1) (fun (u : Int32 × Int32 × (Nat → Int32) × (Nat → Int32) × (Nat → Int32) × (Nat → Int32) × (Nat → Int32) × (Nat → Int32) × (Nat → Int32) × (Nat → Int32) × (Nat → Int32)) (t : State) => va_P (dC, dI) vwCl [kx_5 h0 g_row m_n m_slots m_thrown g_many g_loss g_less g_voteValue g_voteNumber g_allValue g_allNumber u.2.1 g_nodeL g_nodeR u.1 g_part m_partMany g_wasMany g_wasLoss g_wasValue g_wasNumber g_path m_pathMany g_heavyValue g_heavyTimes m_heavyMany g_fewest g_which g_met m_mostMet, kx_a g_row cyI 160 f, kx_a g_many cyI 324 u.2.2.1, kx_a g_loss cyI 324 u.2.2.2.1, kx_a g_less cyI 324 u.2.2.2.2.1, kx_a g_voteValue cyI 1944 u.2.2.2.2.2.1, kx_a g_voteNumber cyI 1944 u.2.2.2.2.2.2.1, kx_a g_allValue cyI 12 u.2.2.2.2.2.2.2.1, kx_a g_allNumber cyI 12 u.2.2.2.2.2.2.2.2.1, kx_a g_nodeL cyI 320 u.2.2.2.2.2.2.2.2.2.1, kx_a g_nodeR cyI 320 u.2.2.2.2.2.2.2.2.2.2, kx_a g_wasMany cyI 320 wm, kx_a g_wasLoss cyI 320 wl, kx_a g_wasValue cyI 1920 wv, kx_a g_wasNumber cyI 1920 wn] t.heap ∧ va_K (dC, dI) vwCl [(cyI, .int)] t ∧ va_D A [kx_5 h0 g_row m_n m_slots m_thrown g_many g_loss g_less g_voteValue g_voteNumber g_allValue g_allNumber u.2.1 g_nodeL g_nodeR u.1 g_part m_partMany g_wasMany g_wasLoss g_wasValue g_wasNumber g_path m_pathMany g_heavyValue g_heavyTimes m_heavyMany g_fewest g_which g_met m_mostMet, kx_a g_row cyI 160 f, kx_a g_many cyI 324 u.2.2.1, kx_a g_loss cyI 324 u.2.2.2.1, kx_a g_less cyI 324 u.2.2.2.2.1, kx_a g_voteValue cyI 1944 u.2.2.2.2.2.1, kx_a g_voteNumber cyI 1944 u.2.2.2.2.2.2.1, kx_a g_allValue cyI 12 u.2.2.2.2.2.2.2.1, kx_a g_allNumber cyI 12 u.2.2.2.2.2.2.2.2.1, kx_a g_nodeL cyI 320 u.2.2.2.2.2.2.2.2.2.1, kx_a g_nodeR cyI 320 u.2.2.2.2.2.2.2.2.2.2, kx_a g_wasMany cyI 320 wm, kx_a g_wasLoss cyI 320 wl, kx_a g_wasValue cyI 1920 wv, kx_a g_wasNumber cyI 1920 wn]) A) := by
  refine kx_stQ (ws := wsX5_others) (cc := cX5_others) (maxL := 5) (ret := (some .int)) (by decide) rfl (Nat.le_of_ble_eq_true rfl) ?_
  intro p e s m below meth c A ls hx hb hr hlocks hts hown hml hA hS hP hK hD hl
  have hown : s.vm.findClass RX5 = some m.cls := hown
  have hl : lv_has ls 5 [(0, .ref h0)] := hl
  have hf_13 := hts (.fieldLink RX5 13 "MajorityIndexModel" "slots" "I") (List.mem_of_getElem? (i := 1) rfl)
  have hi_5 : ∀ w ∈ u_ws RX5 TX5 30, w ∈ wsX5_others := fun w h => List.mem_cons_of_mem _ (List.mem_append_right _ h)
  have hf_101 := hts (.fieldLink RX5 101 "MajorityIndexModel" "nodes" "I") (List.mem_of_getElem? (i := 2) rfl)
  have hf_17 := hts (.fieldLink RX5 17 "MajorityIndexModel" "many" "[I") (List.mem_of_getElem? (i := 3) rfl)
  have hf_47 := hts (.fieldLink RX5 47 "MajorityIndexModel" "wasMany" "[I") (List.mem_of_getElem? (i := 4) rfl)
  have hf_26 := hts (.fieldLink RX5 26 "MajorityIndexModel" "voteValue" "[I") (List.mem_of_getElem? (i := 7) rfl)
  have hf_53 := hts (.fieldLink RX5 53 "MajorityIndexModel" "wasValue" "[I") (List.mem_of_getElem? (i := 8) rfl)
  have hf_29 := hts (.fieldLink RX5 29 "MajorityIndexModel" "voteNumber" "[I") (List.mem_of_getElem? (i := 9) rfl)
  have hf_56 := hts (.fieldLink RX5 56 "MajorityIndexModel" "wasNumber" "[I") (List.mem_of_getElem? (i := 10) rfl)
  have hf_20 := hts (.fieldLink RX5 20 "MajorityIndexModel" "loss" "[I") (List.mem_of_getElem? (i := 5) rfl)
  have hf_50 := hts (.fieldLink RX5 50 "MajorityIndexModel" "wasLoss" "[I") (List.mem_of_getElem? (i := 6) rfl)
  refine lv_aload_n hx hb dX5_others_0 rfl (lv_at hl 0 rfl) ?_
  refine lv_aload_n hx hb dX5_others_1 rfl (lv_at hl 0 rfl) ?_
  refine va_get (D := (dC, dI)) (ci := 5) (v := .int m_slots) (C := RX5) (T := TX5) (N := 30) hx hb hts hi_5 hown hK hP 0 rfl rfl 2 (by decide) hf_13 (fun _ h9 => h9) rfl dX5_others_2 ?_
  obtain ⟨hPc, hDc, hFc, hCc⟩ := kx_preM (wc := [kx_5 h0 g_row m_n m_slots m_thrown g_many g_loss g_less g_voteValue g_voteNumber g_allValue g_allNumber m_allMany g_nodeL g_nodeR m_nodes g_part m_partMany g_wasMany g_wasLoss g_wasValue g_wasNumber g_path m_pathMany g_heavyValue g_heavyTimes m_heavyMany g_fewest g_which g_met m_mostMet, kx_a g_row cyI 160 f, kx_a g_many cyI 324 fm, kx_a g_loss cyI 324 fl, kx_a g_less cyI 324 fe, kx_a g_voteValue cyI 1944 vv, kx_a g_voteNumber cyI 1944 vn, kx_a g_allValue cyI 12 av, kx_a g_allNumber cyI 12 an, kx_a g_nodeL cyI 320 nl, kx_a g_nodeR cyI 320 nr]) hP hD hS hA [true, true, true, true, true, true, true, true, true, true, true, false, false, false, false] rfl
  have hKc := hK
  refine va_callv (va_runV (As := [.int m_slots]) (rest := []) ⟨hx, hb, hml, hown, hts⟩ (kx_un (c_X5_laysAll l dC dI h0 g_row g_many g_loss g_less g_voteValue g_voteNumber g_allValue g_allNumber g_nodeL g_nodeR g_part g_wasMany g_wasLoss g_wasValue g_wasNumber g_path g_heavyValue g_heavyTimes g_fewest g_which g_met m_n m_slots m_thrown m_allMany m_nodes m_partMany m_pathMany m_heavyMany m_mostMet cyI fm fl fe vv vn f av an nl nr m_slots s.heap.size a0 a1 sl0 sl1 s4)) (cwV 1 hts gX5_others_X5_laysAll rfl rfl rfl (by decide +kernel) ⟨Nat.le_of_ble_eq_true rfl, Nat.le_of_ble_eq_true rfl⟩) ⟨fun a U g mk q => by obtain ⟨q0, q1, qP, qK, qD⟩ := q; exact ⟨q0, q1, qP, va_K.moved (u := U) (U := U.calling g mk a) (Vm.Alike.refl U.vm) qK, qD⟩, kx_rc5 hKc hPc (q0 := 0) rfl, fun U hU hW => ⟨rfl, by rw [hU], by rw [hU]; exact hPc, va_K.moved hW.alike hKc, hDc.weaken (fun _ _ _ _ => trivial)⟩⟩ rfl rfl hl.1 rfl (lv_room (Nat.le_of_ble_eq_true rfl)) dX5_others_5 ⟨Nat.le_of_ble_eq_true rfl, Nat.le_of_ble_eq_true rfl⟩) hS (fun q _ h => hFc q h) hFc (fun u t H1 locs ht hvm w_1 hB hz1 hk1 hS => ?_)
  obtain ⟨o_2, o_3, o_4, o_5, o_6, o_7, o_8, o_9, o_10, o_11, o_12⟩ := u
  dsimp only at w_1 hB
  obtain ⟨hP1, hK1, hD1⟩ := hB
  rw [ht] at hP1
  have hK1 := va_K.moved hvm.symm hK1
  obtain ⟨hP, hD⟩ := kx_joinM (w2 := [kx_5 h0 g_row m_n m_slots m_thrown g_many g_loss g_less g_voteValue g_voteNumber g_allValue g_allNumber o_3 g_nodeL g_nodeR o_2 g_part m_partMany g_wasMany g_wasLoss g_wasValue g_wasNumber g_path m_pathMany g_heavyValue g_heavyTimes m_heavyMany g_fewest g_which g_met m_mostMet, kx_a g_row cyI 160 f, kx_a g_many cyI 324 o_4, kx_a g_loss cyI 324 o_5, kx_a g_less cyI 324 o_6, kx_a g_voteValue cyI 1944 o_7, kx_a g_voteNumber cyI 1944 o_8, kx_a g_allValue cyI 12 o_9, kx_a g_allNumber cyI 12 o_10, kx_a g_nodeL cyI 320 o_11, kx_a g_nodeR cyI 320 o_12, kx_a g_wasMany cyI 320 wm, kx_a g_wasLoss cyI 320 wl, kx_a g_wasValue cyI 1920 wv, kx_a g_wasNumber cyI 1920 wn]) hP hD hP1 hD1 hk1 hFc [true, true, true, true, true, true, true, true, true, true, true, false, false, false, false] hCc rfl
  clear hP1 hD1 hK1 hk1 hz1 hFc hDc hPc hKc hCc
  generalize H1 = H at hP hS ⊢
  have w_1 : mj_L m_slots.toNatClampNeg f o_11 o_12 o_4 o_5 o_6 o_7 o_8 m_n.toInt o_2.toInt ∧ six4 o_4 ∧ 0 ≤ o_2.toInt ∧ o_2.toInt ≤ 319 := w_1
  refine lv_iconst (v := 0) hx hb dX5_others_8 (by decide) ?_
  refine lv_istore_n (lv' := [(1, .int 0), (0, .ref h0)]) hx hb dX5_others_9 rfl hl (by decide) rfl (fun ls hl => ?_)
  refine lv_iconst (v := 0) hx hb dX5_others_10 (by decide) ?_
  refine lv_istore_n (lv' := [(2, .int 0), (1, .int 0), (0, .ref h0)]) hx hb dX5_others_11 rfl hl (by decide) rfl (fun ls hl => ?_)
  have LP1 : ∀ (n : Nat) (i : Int32) (sm : Int32), (0 ≤ i.toInt) → (o_2.toInt - i.toInt).toNat < n → ∀ (H : Heap) (locs : List Loc), va_P (dC, dI) vwCl [kx_5 h0 g_row m_n m_slots m_thrown g_many g_loss g_less g_voteValue g_voteNumber g_allValue g_allNumber o_3 g_nodeL g_nodeR o_2 g_part m_partMany g_wasMany g_wasLoss g_wasValue g_wasNumber g_path m_pathMany g_heavyValue g_heavyTimes m_heavyMany g_fewest g_which g_met m_mostMet, kx_a g_row cyI 160 f, kx_a g_many cyI 324 o_4, kx_a g_loss cyI 324 o_5, kx_a g_less cyI 324 o_6, kx_a g_voteValue cyI 1944 o_7, kx_a g_voteNumber cyI 1944 o_8, kx_a g_allValue cyI 12 o_9, kx_a g_allNumber cyI 12 o_10, kx_a g_nodeL cyI 320 o_11, kx_a g_nodeR cyI 320 o_12, kx_a g_wasMany cyI 320 wm, kx_a g_wasLoss cyI 320 wl, kx_a g_wasValue cyI 1920 wv, kx_a g_wasNumber cyI 1920 wn] H → va_D A [kx_5 h0 g_row m_n m_slots m_thrown g_many g_loss g_less g_voteValue g_voteNumber g_allValue g_allNumber o_3 g_nodeL g_nodeR o_2 g_part m_partMany g_wasMany g_wasLoss g_wasValue g_wasNumber g_path m_pathMany g_heavyValue g_heavyTimes m_heavyMany g_fewest g_which g_met m_mostMet, kx_a g_row cyI 160 f, kx_a g_many cyI 324 o_4, kx_a g_loss cyI 324 o_5, kx_a g_less cyI 324 o_6, kx_a g_voteValue cyI 1944 o_7, kx_a g_voteNumber cyI 1944 o_8, kx_a g_allValue cyI 12 o_9, kx_a g_allNumber cyI 12 o_10, kx_a g_nodeL cyI 320 o_11, kx_a g_nodeR cyI 320 o_12, kx_a g_wasMany cyI 320 wm, kx_a g_wasLoss cyI 320 wl, kx_a g_wasValue cyI 1920 wv, kx_a g_wasNumber cyI 1920 wn] → va_S A s.heap H locs → ∀ (ls : Array Slot), lv_has ls 5 [(2, .int i), (1, .int sm), (0, .ref h0)] → W p l e (headSpec wsX5_others ({ frames := 12, cells := 0, slots := 0, locals := 540 })).room s m ([.ref h0] : List Value).toArray below meth c H locs 0 0 (MQ below (va_Qi (fun (r : Int32) (u : Int32 × Int32 × (Nat → Int32) × (Nat → Int32) × (Nat → Int32) × (Nat → Int32) × (Nat → Int32) × (Nat → Int32) × (Nat → Int32) × (Nat → Int32) × (Nat → Int32)) => six4 u.2.2.1) (fun (u : Int32 × Int32 × (Nat → Int32) × (Nat → Int32) × (Nat → Int32) × (Nat → Int32) × (Nat → Int32) × (Nat → Int32) × (Nat → Int32) × (Nat → Int32) × (Nat → Int32)) (t : State) => va_P (dC, dI) vwCl [kx_5 h0 g_row m_n m_slots m_thrown g_many g_loss g_less g_voteValue g_voteNumber g_allValue g_allNumber u.2.1 g_nodeL g_nodeR u.1 g_part m_partMany g_wasMany g_wasLoss g_wasValue g_wasNumber g_path m_pathMany g_heavyValue g_heavyTimes m_heavyMany g_fewest g_which g_met m_mostMet, kx_a g_row cyI 160 f, kx_a g_many cyI 324 u.2.2.1, kx_a g_loss cyI 324 u.2.2.2.1, kx_a g_less cyI 324 u.2.2.2.2.1, kx_a g_voteValue cyI 1944 u.2.2.2.2.2.1, kx_a g_voteNumber cyI 1944 u.2.2.2.2.2.2.1, kx_a g_allValue cyI 12 u.2.2.2.2.2.2.2.1, kx_a g_allNumber cyI 12 u.2.2.2.2.2.2.2.2.1, kx_a g_nodeL cyI 320 u.2.2.2.2.2.2.2.2.2.1, kx_a g_nodeR cyI 320 u.2.2.2.2.2.2.2.2.2.2, kx_a g_wasMany cyI 320 wm, kx_a g_wasLoss cyI 320 wl, kx_a g_wasValue cyI 1920 wv, kx_a g_wasNumber cyI 1920 wn] t.heap ∧ va_K (dC, dI) vwCl [(cyI, .int)] t ∧ va_D A [kx_5 h0 g_row m_n m_slots m_thrown g_many g_loss g_less g_voteValue g_voteNumber g_allValue g_allNumber u.2.1 g_nodeL g_nodeR u.1 g_part m_partMany g_wasMany g_wasLoss g_wasValue g_wasNumber g_path m_pathMany g_heavyValue g_heavyTimes m_heavyMany g_fewest g_which g_met m_mostMet, kx_a g_row cyI 160 f, kx_a g_many cyI 324 u.2.2.1, kx_a g_loss cyI 324 u.2.2.2.1, kx_a g_less cyI 324 u.2.2.2.2.1, kx_a g_voteValue cyI 1944 u.2.2.2.2.2.1, kx_a g_voteNumber cyI 1944 u.2.2.2.2.2.2.1, kx_a g_allValue cyI 12 u.2.2.2.2.2.2.2.1, kx_a g_allNumber cyI 12 u.2.2.2.2.2.2.2.2.1, kx_a g_nodeL cyI 320 u.2.2.2.2.2.2.2.2.2.1, kx_a g_nodeR cyI 320 u.2.2.2.2.2.2.2.2.2.2, kx_a g_wasMany cyI 320 wm, kx_a g_wasLoss cyI 320 wl, kx_a g_wasValue cyI 1920 wv, kx_a g_wasNumber cyI 1920 wn]) A) ([.ref h0] : List Value).toArray s 0 0 A) (F0 m 12 ls []) := by
    intro n
    induction n with
    | zero => intro i sm LP1_h0 hn; exact absurd hn (Nat.not_lt_zero _)
    | succ n ih1 =>
      intro i sm LP1_h0 hn1 H locs hP hD hS ls hl
      refine lv_iload_n hx hb dX5_others_12 rfl (lv_at hl 0 rfl) ?_
      refine lv_aload_n hx hb dX5_others_13 rfl (lv_at hl 2 rfl) ?_
      refine va_get (D := (dC, dI)) (ci := 5) (v := .int o_2) (C := RX5) (T := TX5) (N := 30) hx hb hts hi_5 hown hK hP 0 rfl rfl 14 (by decide) hf_101 (fun _ h9 => h9) rfl dX5_others_14 ?_
      refine lv_icmp_ge (tgt := 158) hx hb dX5_others_17 (by decide) (fun c_13 => ?_) (fun c_13 => ?_)
      · have i_13 : o_2.toInt ≤ i.toInt := kc_le c_13
        refine lv_iload_n hx hb dX5_others_158 rfl (lv_at hl 1 rfl) ?_
        have hP9 := hP
        have hD9 := hD
        have hK9 := hK
        exact W.iret (v := sm) hx hb hr (hlocks := hlocks) (fun t ht hW => ⟨⟨sm, (o_2, o_3, o_4, o_5, o_6, o_7, o_8, o_9, o_10, o_11, o_12), rfl, w_1.2.1, by rw [ht]; exact hP9, va_K.moved hW.alike hK9, hD9⟩, hS.F ht⟩) hS.2.2 dX5_others_159
      · have i_13 : i.toInt < o_2.toInt := kc_nle c_13
        refine lv_aload_n hx hb dX5_others_20 rfl (lv_at hl 2 rfl) ?_
        refine va_get (D := (dC, dI)) (ci := 5) (v := .ref g_many) (C := RX5) (T := TX5) (N := 30) hx hb hts hi_5 hown hK hP 0 rfl rfl 4 (by decide) hf_17 (fun _ h9 => h9) rfl dX5_others_21 ?_
        refine lv_iload_n hx hb dX5_others_24 rfl (lv_at hl 0 rfl) ?_
        refine va_iald hx hb hK hP 2 0 rfl rfl (ki_in (om_10 LP1_h0) (om_424 w_1.2.2.2 i_13)) dX5_others_25 ?_
        refine lv_topi (fun y_14 ey_14 => ?_)
        have j_14 : y_14.toInt = (o_4 i.toNatClampNeg).toInt := congrArg Int32.toInt ey_14
        have n_15 : (i.toNatClampNeg : Int) = i.toInt := ki_nat _ rfl (om_10 LP1_h0)
        have i_16 := w_1.2.1 i.toNatClampNeg (om_ln n_15 (om_424 w_1.2.2.2 i_13))
        refine lv_aload_n hx hb dX5_others_26 rfl (lv_at hl 2 rfl) ?_
        refine va_get (D := (dC, dI)) (ci := 5) (v := .ref g_wasMany) (C := RX5) (T := TX5) (N := 30) hx hb hts hi_5 hown hK hP 0 rfl rfl 17 (by decide) hf_47 (fun _ h9 => h9) rfl dX5_others_27 ?_
        refine lv_iload_n hx hb dX5_others_30 rfl (lv_at hl 0 rfl) ?_
        refine va_iald hx hb hK hP 11 0 rfl rfl (ki_in (om_10 LP1_h0) (om_425 w_1.2.2.2 i_13)) dX5_others_31 ?_
        refine lv_topi (fun y_17 ey_17 => ?_)
        have j_17 : y_17.toInt = (wm i.toNatClampNeg).toInt := congrArg Int32.toInt ey_17
        refine lv_icmp_ne (tgt := 54) hx hb dX5_others_32 (by decide) (fun c_18 => ?_) (fun c_18 => ?_)
        · have i_18 : ¬ y_14.toInt = y_17.toInt := kc_ne c_18
          refine lv_iconst (v := 0) hx hb dX5_others_54 (by decide) ?_
          refine lv_istore_n (lv' := [(3, .int 0), (2, .int i), (1, .int sm), (0, .ref h0)]) hx hb dX5_others_55 rfl hl (by decide) rfl (fun ls hl => ?_)
          refine lv_iconst (v := 0) hx hb dX5_others_56 (by decide) ?_
          refine lv_istore (lv' := [(4, .int 0), (3, .int 0), (2, .int i), (1, .int sm), (0, .ref h0)]) hx hb dX5_others_57 hl (by decide) rfl (fun ls hl => ?_)
          have LP2 : ∀ (n : Nat) (j : Int32) (is : Int32), (0 ≤ j.toInt) → (6 - j.toInt).toNat < n → ∀ (H : Heap) (locs : List Loc), va_P (dC, dI) vwCl [kx_5 h0 g_row m_n m_slots m_thrown g_many g_loss g_less g_voteValue g_voteNumber g_allValue g_allNumber o_3 g_nodeL g_nodeR o_2 g_part m_partMany g_wasMany g_wasLoss g_wasValue g_wasNumber g_path m_pathMany g_heavyValue g_heavyTimes m_heavyMany g_fewest g_which g_met m_mostMet, kx_a g_row cyI 160 f, kx_a g_many cyI 324 o_4, kx_a g_loss cyI 324 o_5, kx_a g_less cyI 324 o_6, kx_a g_voteValue cyI 1944 o_7, kx_a g_voteNumber cyI 1944 o_8, kx_a g_allValue cyI 12 o_9, kx_a g_allNumber cyI 12 o_10, kx_a g_nodeL cyI 320 o_11, kx_a g_nodeR cyI 320 o_12, kx_a g_wasMany cyI 320 wm, kx_a g_wasLoss cyI 320 wl, kx_a g_wasValue cyI 1920 wv, kx_a g_wasNumber cyI 1920 wn] H → va_D A [kx_5 h0 g_row m_n m_slots m_thrown g_many g_loss g_less g_voteValue g_voteNumber g_allValue g_allNumber o_3 g_nodeL g_nodeR o_2 g_part m_partMany g_wasMany g_wasLoss g_wasValue g_wasNumber g_path m_pathMany g_heavyValue g_heavyTimes m_heavyMany g_fewest g_which g_met m_mostMet, kx_a g_row cyI 160 f, kx_a g_many cyI 324 o_4, kx_a g_loss cyI 324 o_5, kx_a g_less cyI 324 o_6, kx_a g_voteValue cyI 1944 o_7, kx_a g_voteNumber cyI 1944 o_8, kx_a g_allValue cyI 12 o_9, kx_a g_allNumber cyI 12 o_10, kx_a g_nodeL cyI 320 o_11, kx_a g_nodeR cyI 320 o_12, kx_a g_wasMany cyI 320 wm, kx_a g_wasLoss cyI 320 wl, kx_a g_wasValue cyI 1920 wv, kx_a g_wasNumber cyI 1920 wn] → va_S A s.heap H locs → ∀ (ls : Array Slot), lv_has ls 5 [(4, .int j), (3, .int is), (2, .int i), (1, .int sm), (0, .ref h0)] → W p l e (headSpec wsX5_others ({ frames := 12, cells := 0, slots := 0, locals := 540 })).room s m ([.ref h0] : List Value).toArray below meth c H locs 0 0 (MQ below (va_Qi (fun (r : Int32) (u : Int32 × Int32 × (Nat → Int32) × (Nat → Int32) × (Nat → Int32) × (Nat → Int32) × (Nat → Int32) × (Nat → Int32) × (Nat → Int32) × (Nat → Int32) × (Nat → Int32)) => six4 u.2.2.1) (fun (u : Int32 × Int32 × (Nat → Int32) × (Nat → Int32) × (Nat → Int32) × (Nat → Int32) × (Nat → Int32) × (Nat → Int32) × (Nat → Int32) × (Nat → Int32) × (Nat → Int32)) (t : State) => va_P (dC, dI) vwCl [kx_5 h0 g_row m_n m_slots m_thrown g_many g_loss g_less g_voteValue g_voteNumber g_allValue g_allNumber u.2.1 g_nodeL g_nodeR u.1 g_part m_partMany g_wasMany g_wasLoss g_wasValue g_wasNumber g_path m_pathMany g_heavyValue g_heavyTimes m_heavyMany g_fewest g_which g_met m_mostMet, kx_a g_row cyI 160 f, kx_a g_many cyI 324 u.2.2.1, kx_a g_loss cyI 324 u.2.2.2.1, kx_a g_less cyI 324 u.2.2.2.2.1, kx_a g_voteValue cyI 1944 u.2.2.2.2.2.1, kx_a g_voteNumber cyI 1944 u.2.2.2.2.2.2.1, kx_a g_allValue cyI 12 u.2.2.2.2.2.2.2.1, kx_a g_allNumber cyI 12 u.2.2.2.2.2.2.2.2.1, kx_a g_nodeL cyI 320 u.2.2.2.2.2.2.2.2.2.1, kx_a g_nodeR cyI 320 u.2.2.2.2.2.2.2.2.2.2, kx_a g_wasMany cyI 320 wm, kx_a g_wasLoss cyI 320 wl, kx_a g_wasValue cyI 1920 wv, kx_a g_wasNumber cyI 1920 wn] t.heap ∧ va_K (dC, dI) vwCl [(cyI, .int)] t ∧ va_D A [kx_5 h0 g_row m_n m_slots m_thrown g_many g_loss g_less g_voteValue g_voteNumber g_allValue g_allNumber u.2.1 g_nodeL g_nodeR u.1 g_part m_partMany g_wasMany g_wasLoss g_wasValue g_wasNumber g_path m_pathMany g_heavyValue g_heavyTimes m_heavyMany g_fewest g_which g_met m_mostMet, kx_a g_row cyI 160 f, kx_a g_many cyI 324 u.2.2.1, kx_a g_loss cyI 324 u.2.2.2.1, kx_a g_less cyI 324 u.2.2.2.2.1, kx_a g_voteValue cyI 1944 u.2.2.2.2.2.1, kx_a g_voteNumber cyI 1944 u.2.2.2.2.2.2.1, kx_a g_allValue cyI 12 u.2.2.2.2.2.2.2.1, kx_a g_allNumber cyI 12 u.2.2.2.2.2.2.2.2.1, kx_a g_nodeL cyI 320 u.2.2.2.2.2.2.2.2.2.1, kx_a g_nodeR cyI 320 u.2.2.2.2.2.2.2.2.2.2, kx_a g_wasMany cyI 320 wm, kx_a g_wasLoss cyI 320 wl, kx_a g_wasValue cyI 1920 wv, kx_a g_wasNumber cyI 1920 wn]) A) ([.ref h0] : List Value).toArray s 0 0 A) (F0 m 59 ls []) := by
            intro n
            induction n with
            | zero => intro j is LP2_h0 hn; exact absurd hn (Nat.not_lt_zero _)
            | succ n ih2 =>
              intro j is LP2_h0 hn2 H locs hP hD hS ls hl
              refine lv_iload hx hb dX5_others_59 (lv_at hl 0 rfl) ?_
              refine lv_aload_n hx hb dX5_others_61 rfl (lv_at hl 4 rfl) ?_
              refine va_get (D := (dC, dI)) (ci := 5) (v := .ref g_many) (C := RX5) (T := TX5) (N := 30) hx hb hts hi_5 hown hK hP 0 rfl rfl 4 (by decide) hf_17 (fun _ h9 => h9) rfl dX5_others_62 ?_
              refine lv_iload_n hx hb dX5_others_65 rfl (lv_at hl 2 rfl) ?_
              refine va_iald hx hb hK hP 2 0 rfl rfl (ki_in (om_10 LP1_h0) (om_424 w_1.2.2.2 i_13)) dX5_others_66 ?_
              refine lv_topi (fun y_19 ey_19 => ?_)
              have j_19 : y_19.toInt = (o_4 i.toNatClampNeg).toInt := congrArg Int32.toInt ey_19
              have n_20 : (i.toNatClampNeg : Int) = i.toInt := ki_nat _ rfl (om_10 LP1_h0)
              have i_21 := w_1.2.1 i.toNatClampNeg (om_ln n_20 (om_424 w_1.2.2.2 i_13))
              refine lv_icmp_ge (tgt := 140) hx hb dX5_others_67 (by decide) (fun c_22 => ?_) (fun c_22 => ?_)
              · have i_22 : y_19.toInt ≤ j.toInt := kc_le c_22
                refine lv_iload_n hx hb dX5_others_140 rfl (lv_at hl 3 rfl) ?_
                refine lv_iload_n hx hb dX5_others_141 rfl (lv_at hl 1 rfl) ?_
                refine lv_if_eq (tgt := 149) hx hb dX5_others_142 (by decide) (fun c_23 => ?_) (fun c_23 => ?_)
                · have i_23 : is.toInt = 0 := kc_eq c_23
                  refine lv_iconst (v := 1) hx hb dX5_others_149 (by decide) ?_
                  refine lv_iadd hx hb dX5_others_150 ?_
                  refine lv_topi (fun y_24 ey_24 => ?_)
                  refine lv_istore_n (lv' := [(1, .int y_24), (4, .int j), (3, .int is), (2, .int i), (0, .ref h0)]) hx hb dX5_others_151 rfl hl (by decide) rfl (fun ls hl => ?_)
                  obtain ⟨x_25, ex_25⟩ : ∃ y : Int32, y = i + 1 := ⟨_, rfl⟩
                  have i_25 : x_25.toInt = i.toInt + 1 := ki_add ex_25 rfl rfl (om_13 LP1_h0) (om_125 w_1.2.2.2 i_13)
                  refine lv_iinc (v := x_25) (lv' := [(2, .int x_25), (1, .int y_24), (4, .int j), (3, .int is), (0, .ref h0)]) hx hb dX5_others_152 hl (k := 3) rfl (by rw [ex_25]; rfl) (by decide) rfl (fun ls hl => ?_)
                  refine lv_goto (tgt := 12) hx hb dX5_others_155 (by decide) ?_
                  exact ih1 x_25 y_24 (om_34 LP1_h0 i_25) (om_mu hn1 (om_5 i_25) (om_6 i_13)) _ _ hP hD hS ls (lv_sub hl [0, 1, 4] rfl)
                · have i_23 : ¬ is.toInt = 0 := kc_ne c_23
                  refine lv_iconst (v := 0) hx hb dX5_others_145 (by decide) ?_
                  refine lv_goto (tgt := 150) hx hb dX5_others_146 (by decide) ?_
                  refine lv_iadd hx hb dX5_others_150 ?_
                  refine lv_topi (fun y_26 ey_26 => ?_)
                  refine lv_istore_n (lv' := [(1, .int y_26), (4, .int j), (3, .int is), (2, .int i), (0, .ref h0)]) hx hb dX5_others_151 rfl hl (by decide) rfl (fun ls hl => ?_)
                  obtain ⟨x_27, ex_27⟩ : ∃ y : Int32, y = i + 1 := ⟨_, rfl⟩
                  have i_27 : x_27.toInt = i.toInt + 1 := ki_add ex_27 rfl rfl (om_13 LP1_h0) (om_125 w_1.2.2.2 i_13)
                  refine lv_iinc (v := x_27) (lv' := [(2, .int x_27), (1, .int y_26), (4, .int j), (3, .int is), (0, .ref h0)]) hx hb dX5_others_152 hl (k := 3) rfl (by rw [ex_27]; rfl) (by decide) rfl (fun ls hl => ?_)
                  refine lv_goto (tgt := 12) hx hb dX5_others_155 (by decide) ?_
                  exact ih1 x_27 y_26 (om_34 LP1_h0 i_27) (om_mu hn1 (om_5 i_27) (om_6 i_13)) _ _ hP hD hS ls (lv_sub hl [0, 1, 4] rfl)
              · have i_22 : j.toInt < y_19.toInt := kc_nle c_22
                refine lv_iload_n hx hb dX5_others_70 rfl (lv_at hl 1 rfl) ?_
                refine lv_if_eq (tgt := 140) hx hb dX5_others_71 (by decide) (fun c_28 => ?_) (fun c_28 => ?_)
                · have i_28 : is.toInt = 0 := kc_eq c_28
                  refine lv_iload_n hx hb dX5_others_140 rfl (lv_at hl 3 rfl) ?_
                  refine lv_iload_n hx hb dX5_others_141 rfl (lv_at hl 1 rfl) ?_
                  refine lv_if_eq (tgt := 149) hx hb dX5_others_142 (by decide) (fun c_29 => ?_) (fun c_29 => ?_)
                  · have i_29 : is.toInt = 0 := kc_eq c_29
                    refine lv_iconst (v := 1) hx hb dX5_others_149 (by decide) ?_
                    refine lv_iadd hx hb dX5_others_150 ?_
                    refine lv_topi (fun y_30 ey_30 => ?_)
                    refine lv_istore_n (lv' := [(1, .int y_30), (4, .int j), (3, .int is), (2, .int i), (0, .ref h0)]) hx hb dX5_others_151 rfl hl (by decide) rfl (fun ls hl => ?_)
                    obtain ⟨x_31, ex_31⟩ : ∃ y : Int32, y = i + 1 := ⟨_, rfl⟩
                    have i_31 : x_31.toInt = i.toInt + 1 := ki_add ex_31 rfl rfl (om_13 LP1_h0) (om_125 w_1.2.2.2 i_13)
                    refine lv_iinc (v := x_31) (lv' := [(2, .int x_31), (1, .int y_30), (4, .int j), (3, .int is), (0, .ref h0)]) hx hb dX5_others_152 hl (k := 3) rfl (by rw [ex_31]; rfl) (by decide) rfl (fun ls hl => ?_)
                    refine lv_goto (tgt := 12) hx hb dX5_others_155 (by decide) ?_
                    exact ih1 x_31 y_30 (om_34 LP1_h0 i_31) (om_mu hn1 (om_5 i_31) (om_6 i_13)) _ _ hP hD hS ls (lv_sub hl [0, 1, 4] rfl)
                  · have i_29 : ¬ is.toInt = 0 := kc_ne c_29
                    refine lv_iconst (v := 0) hx hb dX5_others_145 (by decide) ?_
                    refine lv_goto (tgt := 150) hx hb dX5_others_146 (by decide) ?_
                    refine lv_iadd hx hb dX5_others_150 ?_
                    refine lv_topi (fun y_32 ey_32 => ?_)
                    refine lv_istore_n (lv' := [(1, .int y_32), (4, .int j), (3, .int is), (2, .int i), (0, .ref h0)]) hx hb dX5_others_151 rfl hl (by decide) rfl (fun ls hl => ?_)
                    obtain ⟨x_33, ex_33⟩ : ∃ y : Int32, y = i + 1 := ⟨_, rfl⟩
                    have i_33 : x_33.toInt = i.toInt + 1 := ki_add ex_33 rfl rfl (om_13 LP1_h0) (om_125 w_1.2.2.2 i_13)
                    refine lv_iinc (v := x_33) (lv' := [(2, .int x_33), (1, .int y_32), (4, .int j), (3, .int is), (0, .ref h0)]) hx hb dX5_others_152 hl (k := 3) rfl (by rw [ex_33]; rfl) (by decide) rfl (fun ls hl => ?_)
                    refine lv_goto (tgt := 12) hx hb dX5_others_155 (by decide) ?_
                    exact ih1 x_33 y_32 (om_34 LP1_h0 i_33) (om_mu hn1 (om_5 i_33) (om_6 i_13)) _ _ hP hD hS ls (lv_sub hl [0, 1, 4] rfl)
                · have i_28 : ¬ is.toInt = 0 := kc_ne c_28
                  refine lv_aload_n hx hb dX5_others_74 rfl (lv_at hl 4 rfl) ?_
                  refine va_get (D := (dC, dI)) (ci := 5) (v := .ref g_voteValue) (C := RX5) (T := TX5) (N := 30) hx hb hts hi_5 hown hK hP 0 rfl rfl 7 (by decide) hf_26 (fun _ h9 => h9) rfl dX5_others_75 ?_
                  refine lv_bipush (v := 6) hx hb dX5_others_78 (by decide) ?_
                  refine lv_iload_n hx hb dX5_others_80 rfl (lv_at hl 2 rfl) ?_
                  refine lv_imul hx hb dX5_others_81 ?_
                  refine lv_topi (fun y_34 ey_34 => ?_)
                  have i_34 : y_34.toInt = 6 * i.toInt := ki_mul ey_34 rfl rfl (om_247 LP1_h0) (om_426 w_1.2.2.2 i_13)
                  refine lv_iload hx hb dX5_others_82 (lv_at hl 0 rfl) ?_
                  refine lv_iadd hx hb dX5_others_84 ?_
                  refine lv_topi (fun y_35 ey_35 => ?_)
                  have i_35 : y_35.toInt = y_34.toInt + j.toInt := ki_add ey_35 rfl rfl (om_251 LP1_h0 LP2_h0 i_34) (om_427 w_1.2.2.2 i_13 j_19 i_21.2 i_22 i_34)
                  refine va_iald hx hb hK hP 5 0 rfl rfl (ki_in (om_253 LP1_h0 LP2_h0 i_34 i_35) (om_428 w_1.2.2.2 i_13 j_19 i_21.2 i_22 i_34 i_35)) dX5_others_85 ?_
                  refine lv_topi (fun y_36 ey_36 => ?_)
                  have j_36 : y_36.toInt = (o_7 y_35.toNatClampNeg).toInt := congrArg Int32.toInt ey_36
                  refine lv_aload_n hx hb dX5_others_86 rfl (lv_at hl 4 rfl) ?_
                  refine va_get (D := (dC, dI)) (ci := 5) (v := .ref g_wasValue) (C := RX5) (T := TX5) (N := 30) hx hb hts hi_5 hown hK hP 0 rfl rfl 19 (by decide) hf_53 (fun _ h9 => h9) rfl dX5_others_87 ?_
                  refine lv_bipush (v := 6) hx hb dX5_others_90 (by decide) ?_
                  refine lv_iload_n hx hb dX5_others_92 rfl (lv_at hl 2 rfl) ?_
                  refine lv_imul hx hb dX5_others_93 ?_
                  refine lv_topi (fun y_37 ey_37 => ?_)
                  have i_37 : y_37.toInt = 6 * i.toInt := ki_mul ey_37 rfl rfl (om_247 LP1_h0) (om_426 w_1.2.2.2 i_13)
                  refine lv_iload hx hb dX5_others_94 (lv_at hl 0 rfl) ?_
                  refine lv_iadd hx hb dX5_others_96 ?_
                  refine lv_topi (fun y_38 ey_38 => ?_)
                  have i_38 : y_38.toInt = y_37.toInt + j.toInt := ki_add ey_38 rfl rfl (om_251 LP1_h0 LP2_h0 i_37) (om_427 w_1.2.2.2 i_13 j_19 i_21.2 i_22 i_37)
                  refine va_iald hx hb hK hP 13 0 rfl rfl (ki_in (om_253 LP1_h0 LP2_h0 i_37 i_38) (om_429 w_1.2.2.2 i_13 j_19 i_21.2 i_22 i_37 i_38)) dX5_others_97 ?_
                  refine lv_topi (fun y_39 ey_39 => ?_)
                  have j_39 : y_39.toInt = (wv y_38.toNatClampNeg).toInt := congrArg Int32.toInt ey_39
                  refine lv_icmp_ne (tgt := 132) hx hb dX5_others_98 (by decide) (fun c_40 => ?_) (fun c_40 => ?_)
                  · have i_40 : ¬ y_36.toInt = y_39.toInt := kc_ne c_40
                    refine lv_iconst (v := 0) hx hb dX5_others_132 (by decide) ?_
                    refine lv_istore_n (lv' := [(3, .int 0), (4, .int j), (2, .int i), (1, .int sm), (0, .ref h0)]) hx hb dX5_others_133 rfl hl (by decide) rfl (fun ls hl => ?_)
                    obtain ⟨x_41, ex_41⟩ : ∃ y : Int32, y = j + 1 := ⟨_, rfl⟩
                    have i_41 : x_41.toInt = j.toInt + 1 := ki_add ex_41 rfl rfl (om_13 LP2_h0) (om_101 j_19 i_21.2 i_22)
                    refine lv_iinc (v := x_41) (lv' := [(4, .int x_41), (3, .int 0), (2, .int i), (1, .int sm), (0, .ref h0)]) hx hb dX5_others_134 hl (k := 1) rfl (by rw [ex_41]; rfl) (by decide) rfl (fun ls hl => ?_)
                    refine lv_goto (tgt := 59) hx hb dX5_others_137 (by decide) ?_
                    have k_42 : (0 : Int32).toInt = 0 := rfl
                    exact ih2 x_41 0 (om_34 LP2_h0 i_41) (om_mu hn2 (om_102 i_41) (om_103 j_19 i_21.2 i_22)) _ _ hP hD hS ls (lv_sub hl [0, 1, 2, 3, 4] rfl)
                  · have i_40 : y_36.toInt = y_39.toInt := kc_eq c_40
                    refine lv_aload_n hx hb dX5_others_101 rfl (lv_at hl 4 rfl) ?_
                    refine va_get (D := (dC, dI)) (ci := 5) (v := .ref g_voteNumber) (C := RX5) (T := TX5) (N := 30) hx hb hts hi_5 hown hK hP 0 rfl rfl 8 (by decide) hf_29 (fun _ h9 => h9) rfl dX5_others_102 ?_
                    refine lv_bipush (v := 6) hx hb dX5_others_105 (by decide) ?_
                    refine lv_iload_n hx hb dX5_others_107 rfl (lv_at hl 2 rfl) ?_
                    refine lv_imul hx hb dX5_others_108 ?_
                    refine lv_topi (fun y_43 ey_43 => ?_)
                    have i_43 : y_43.toInt = 6 * i.toInt := ki_mul ey_43 rfl rfl (om_247 LP1_h0) (om_426 w_1.2.2.2 i_13)
                    refine lv_iload hx hb dX5_others_109 (lv_at hl 0 rfl) ?_
                    refine lv_iadd hx hb dX5_others_111 ?_
                    refine lv_topi (fun y_44 ey_44 => ?_)
                    have i_44 : y_44.toInt = y_43.toInt + j.toInt := ki_add ey_44 rfl rfl (om_251 LP1_h0 LP2_h0 i_43) (om_427 w_1.2.2.2 i_13 j_19 i_21.2 i_22 i_43)
                    refine va_iald hx hb hK hP 6 0 rfl rfl (ki_in (om_253 LP1_h0 LP2_h0 i_43 i_44) (om_428 w_1.2.2.2 i_13 j_19 i_21.2 i_22 i_43 i_44)) dX5_others_112 ?_
                    refine lv_topi (fun y_45 ey_45 => ?_)
                    have j_45 : y_45.toInt = (o_8 y_44.toNatClampNeg).toInt := congrArg Int32.toInt ey_45
                    refine lv_aload_n hx hb dX5_others_113 rfl (lv_at hl 4 rfl) ?_
                    refine va_get (D := (dC, dI)) (ci := 5) (v := .ref g_wasNumber) (C := RX5) (T := TX5) (N := 30) hx hb hts hi_5 hown hK hP 0 rfl rfl 20 (by decide) hf_56 (fun _ h9 => h9) rfl dX5_others_114 ?_
                    refine lv_bipush (v := 6) hx hb dX5_others_117 (by decide) ?_
                    refine lv_iload_n hx hb dX5_others_119 rfl (lv_at hl 2 rfl) ?_
                    refine lv_imul hx hb dX5_others_120 ?_
                    refine lv_topi (fun y_46 ey_46 => ?_)
                    have i_46 : y_46.toInt = 6 * i.toInt := ki_mul ey_46 rfl rfl (om_247 LP1_h0) (om_426 w_1.2.2.2 i_13)
                    refine lv_iload hx hb dX5_others_121 (lv_at hl 0 rfl) ?_
                    refine lv_iadd hx hb dX5_others_123 ?_
                    refine lv_topi (fun y_47 ey_47 => ?_)
                    have i_47 : y_47.toInt = y_46.toInt + j.toInt := ki_add ey_47 rfl rfl (om_251 LP1_h0 LP2_h0 i_46) (om_427 w_1.2.2.2 i_13 j_19 i_21.2 i_22 i_46)
                    refine va_iald hx hb hK hP 14 0 rfl rfl (ki_in (om_253 LP1_h0 LP2_h0 i_46 i_47) (om_429 w_1.2.2.2 i_13 j_19 i_21.2 i_22 i_46 i_47)) dX5_others_124 ?_
                    refine lv_topi (fun y_48 ey_48 => ?_)
                    have j_48 : y_48.toInt = (wn y_47.toNatClampNeg).toInt := congrArg Int32.toInt ey_48
                    refine lv_icmp_ne (tgt := 132) hx hb dX5_others_125 (by decide) (fun c_49 => ?_) (fun c_49 => ?_)
                    · have i_49 : ¬ y_45.toInt = y_48.toInt := kc_ne c_49
                      refine lv_iconst (v := 0) hx hb dX5_others_132 (by decide) ?_
                      refine lv_istore_n (lv' := [(3, .int 0), (4, .int j), (2, .int i), (1, .int sm), (0, .ref h0)]) hx hb dX5_others_133 rfl hl (by decide) rfl (fun ls hl => ?_)
                      obtain ⟨x_50, ex_50⟩ : ∃ y : Int32, y = j + 1 := ⟨_, rfl⟩
                      have i_50 : x_50.toInt = j.toInt + 1 := ki_add ex_50 rfl rfl (om_13 LP2_h0) (om_101 j_19 i_21.2 i_22)
                      refine lv_iinc (v := x_50) (lv' := [(4, .int x_50), (3, .int 0), (2, .int i), (1, .int sm), (0, .ref h0)]) hx hb dX5_others_134 hl (k := 1) rfl (by rw [ex_50]; rfl) (by decide) rfl (fun ls hl => ?_)
                      refine lv_goto (tgt := 59) hx hb dX5_others_137 (by decide) ?_
                      have k_51 : (0 : Int32).toInt = 0 := rfl
                      exact ih2 x_50 0 (om_34 LP2_h0 i_50) (om_mu hn2 (om_102 i_50) (om_103 j_19 i_21.2 i_22)) _ _ hP hD hS ls (lv_sub hl [0, 1, 2, 3, 4] rfl)
                    · have i_49 : y_45.toInt = y_48.toInt := kc_eq c_49
                      refine lv_iconst (v := 1) hx hb dX5_others_128 (by decide) ?_
                      refine lv_goto (tgt := 133) hx hb dX5_others_129 (by decide) ?_
                      refine lv_istore_n (lv' := [(3, .int 1), (4, .int j), (2, .int i), (1, .int sm), (0, .ref h0)]) hx hb dX5_others_133 rfl hl (by decide) rfl (fun ls hl => ?_)
                      obtain ⟨x_52, ex_52⟩ : ∃ y : Int32, y = j + 1 := ⟨_, rfl⟩
                      have i_52 : x_52.toInt = j.toInt + 1 := ki_add ex_52 rfl rfl (om_13 LP2_h0) (om_101 j_19 i_21.2 i_22)
                      refine lv_iinc (v := x_52) (lv' := [(4, .int x_52), (3, .int 1), (2, .int i), (1, .int sm), (0, .ref h0)]) hx hb dX5_others_134 hl (k := 1) rfl (by rw [ex_52]; rfl) (by decide) rfl (fun ls hl => ?_)
                      refine lv_goto (tgt := 59) hx hb dX5_others_137 (by decide) ?_
                      have k_53 : (1 : Int32).toInt = 1 := rfl
                      exact ih2 x_52 1 (om_34 LP2_h0 i_52) (om_mu hn2 (om_102 i_52) (om_103 j_19 i_21.2 i_22)) _ _ hP hD hS ls (lv_sub hl [0, 1, 2, 3, 4] rfl)
          have k_54 : (0 : Int32).toInt = 0 := rfl
          have k_55 : (0 : Int32).toInt = 0 := rfl
          exact LP2 ((6 - 0 : Int).toNat + 1) 0 0 om_35 (Nat.lt_succ_self _) _ _ hP hD hS ls (lv_sub hl [0, 1, 2, 3, 4] rfl)
        · have i_18 : y_14.toInt = y_17.toInt := kc_eq c_18
          refine lv_aload_n hx hb dX5_others_35 rfl (lv_at hl 2 rfl) ?_
          refine va_get (D := (dC, dI)) (ci := 5) (v := .ref g_loss) (C := RX5) (T := TX5) (N := 30) hx hb hts hi_5 hown hK hP 0 rfl rfl 5 (by decide) hf_20 (fun _ h9 => h9) rfl dX5_others_36 ?_
          refine lv_iload_n hx hb dX5_others_39 rfl (lv_at hl 0 rfl) ?_
          refine va_iald hx hb hK hP 3 0 rfl rfl (ki_in (om_10 LP1_h0) (om_424 w_1.2.2.2 i_13)) dX5_others_40 ?_
          refine lv_topi (fun y_56 ey_56 => ?_)
          have j_56 : y_56.toInt = (o_5 i.toNatClampNeg).toInt := congrArg Int32.toInt ey_56
          refine lv_aload_n hx hb dX5_others_41 rfl (lv_at hl 2 rfl) ?_
          refine va_get (D := (dC, dI)) (ci := 5) (v := .ref g_wasLoss) (C := RX5) (T := TX5) (N := 30) hx hb hts hi_5 hown hK hP 0 rfl rfl 18 (by decide) hf_50 (fun _ h9 => h9) rfl dX5_others_42 ?_
          refine lv_iload_n hx hb dX5_others_45 rfl (lv_at hl 0 rfl) ?_
          refine va_iald hx hb hK hP 12 0 rfl rfl (ki_in (om_10 LP1_h0) (om_425 w_1.2.2.2 i_13)) dX5_others_46 ?_
          refine lv_topi (fun y_57 ey_57 => ?_)
          have j_57 : y_57.toInt = (wl i.toNatClampNeg).toInt := congrArg Int32.toInt ey_57
          refine lv_icmp_ne (tgt := 54) hx hb dX5_others_47 (by decide) (fun c_58 => ?_) (fun c_58 => ?_)
          · have i_58 : ¬ y_56.toInt = y_57.toInt := kc_ne c_58
            refine lv_iconst (v := 0) hx hb dX5_others_54 (by decide) ?_
            refine lv_istore_n (lv' := [(3, .int 0), (2, .int i), (1, .int sm), (0, .ref h0)]) hx hb dX5_others_55 rfl hl (by decide) rfl (fun ls hl => ?_)
            refine lv_iconst (v := 0) hx hb dX5_others_56 (by decide) ?_
            refine lv_istore (lv' := [(4, .int 0), (3, .int 0), (2, .int i), (1, .int sm), (0, .ref h0)]) hx hb dX5_others_57 hl (by decide) rfl (fun ls hl => ?_)
            have LP3 : ∀ (n : Nat) (j : Int32) (is : Int32), (0 ≤ j.toInt) → (6 - j.toInt).toNat < n → ∀ (H : Heap) (locs : List Loc), va_P (dC, dI) vwCl [kx_5 h0 g_row m_n m_slots m_thrown g_many g_loss g_less g_voteValue g_voteNumber g_allValue g_allNumber o_3 g_nodeL g_nodeR o_2 g_part m_partMany g_wasMany g_wasLoss g_wasValue g_wasNumber g_path m_pathMany g_heavyValue g_heavyTimes m_heavyMany g_fewest g_which g_met m_mostMet, kx_a g_row cyI 160 f, kx_a g_many cyI 324 o_4, kx_a g_loss cyI 324 o_5, kx_a g_less cyI 324 o_6, kx_a g_voteValue cyI 1944 o_7, kx_a g_voteNumber cyI 1944 o_8, kx_a g_allValue cyI 12 o_9, kx_a g_allNumber cyI 12 o_10, kx_a g_nodeL cyI 320 o_11, kx_a g_nodeR cyI 320 o_12, kx_a g_wasMany cyI 320 wm, kx_a g_wasLoss cyI 320 wl, kx_a g_wasValue cyI 1920 wv, kx_a g_wasNumber cyI 1920 wn] H → va_D A [kx_5 h0 g_row m_n m_slots m_thrown g_many g_loss g_less g_voteValue g_voteNumber g_allValue g_allNumber o_3 g_nodeL g_nodeR o_2 g_part m_partMany g_wasMany g_wasLoss g_wasValue g_wasNumber g_path m_pathMany g_heavyValue g_heavyTimes m_heavyMany g_fewest g_which g_met m_mostMet, kx_a g_row cyI 160 f, kx_a g_many cyI 324 o_4, kx_a g_loss cyI 324 o_5, kx_a g_less cyI 324 o_6, kx_a g_voteValue cyI 1944 o_7, kx_a g_voteNumber cyI 1944 o_8, kx_a g_allValue cyI 12 o_9, kx_a g_allNumber cyI 12 o_10, kx_a g_nodeL cyI 320 o_11, kx_a g_nodeR cyI 320 o_12, kx_a g_wasMany cyI 320 wm, kx_a g_wasLoss cyI 320 wl, kx_a g_wasValue cyI 1920 wv, kx_a g_wasNumber cyI 1920 wn] → va_S A s.heap H locs → ∀ (ls : Array Slot), lv_has ls 5 [(4, .int j), (3, .int is), (2, .int i), (1, .int sm), (0, .ref h0)] → W p l e (headSpec wsX5_others ({ frames := 12, cells := 0, slots := 0, locals := 540 })).room s m ([.ref h0] : List Value).toArray below meth c H locs 0 0 (MQ below (va_Qi (fun (r : Int32) (u : Int32 × Int32 × (Nat → Int32) × (Nat → Int32) × (Nat → Int32) × (Nat → Int32) × (Nat → Int32) × (Nat → Int32) × (Nat → Int32) × (Nat → Int32) × (Nat → Int32)) => six4 u.2.2.1) (fun (u : Int32 × Int32 × (Nat → Int32) × (Nat → Int32) × (Nat → Int32) × (Nat → Int32) × (Nat → Int32) × (Nat → Int32) × (Nat → Int32) × (Nat → Int32) × (Nat → Int32)) (t : State) => va_P (dC, dI) vwCl [kx_5 h0 g_row m_n m_slots m_thrown g_many g_loss g_less g_voteValue g_voteNumber g_allValue g_allNumber u.2.1 g_nodeL g_nodeR u.1 g_part m_partMany g_wasMany g_wasLoss g_wasValue g_wasNumber g_path m_pathMany g_heavyValue g_heavyTimes m_heavyMany g_fewest g_which g_met m_mostMet, kx_a g_row cyI 160 f, kx_a g_many cyI 324 u.2.2.1, kx_a g_loss cyI 324 u.2.2.2.1, kx_a g_less cyI 324 u.2.2.2.2.1, kx_a g_voteValue cyI 1944 u.2.2.2.2.2.1, kx_a g_voteNumber cyI 1944 u.2.2.2.2.2.2.1, kx_a g_allValue cyI 12 u.2.2.2.2.2.2.2.1, kx_a g_allNumber cyI 12 u.2.2.2.2.2.2.2.2.1, kx_a g_nodeL cyI 320 u.2.2.2.2.2.2.2.2.2.1, kx_a g_nodeR cyI 320 u.2.2.2.2.2.2.2.2.2.2, kx_a g_wasMany cyI 320 wm, kx_a g_wasLoss cyI 320 wl, kx_a g_wasValue cyI 1920 wv, kx_a g_wasNumber cyI 1920 wn] t.heap ∧ va_K (dC, dI) vwCl [(cyI, .int)] t ∧ va_D A [kx_5 h0 g_row m_n m_slots m_thrown g_many g_loss g_less g_voteValue g_voteNumber g_allValue g_allNumber u.2.1 g_nodeL g_nodeR u.1 g_part m_partMany g_wasMany g_wasLoss g_wasValue g_wasNumber g_path m_pathMany g_heavyValue g_heavyTimes m_heavyMany g_fewest g_which g_met m_mostMet, kx_a g_row cyI 160 f, kx_a g_many cyI 324 u.2.2.1, kx_a g_loss cyI 324 u.2.2.2.1, kx_a g_less cyI 324 u.2.2.2.2.1, kx_a g_voteValue cyI 1944 u.2.2.2.2.2.1, kx_a g_voteNumber cyI 1944 u.2.2.2.2.2.2.1, kx_a g_allValue cyI 12 u.2.2.2.2.2.2.2.1, kx_a g_allNumber cyI 12 u.2.2.2.2.2.2.2.2.1, kx_a g_nodeL cyI 320 u.2.2.2.2.2.2.2.2.2.1, kx_a g_nodeR cyI 320 u.2.2.2.2.2.2.2.2.2.2, kx_a g_wasMany cyI 320 wm, kx_a g_wasLoss cyI 320 wl, kx_a g_wasValue cyI 1920 wv, kx_a g_wasNumber cyI 1920 wn]) A) ([.ref h0] : List Value).toArray s 0 0 A) (F0 m 59 ls []) := by
              intro n
              induction n with
              | zero => intro j is LP3_h0 hn; exact absurd hn (Nat.not_lt_zero _)
              | succ n ih3 =>
                intro j is LP3_h0 hn3 H locs hP hD hS ls hl
                refine lv_iload hx hb dX5_others_59 (lv_at hl 0 rfl) ?_
                refine lv_aload_n hx hb dX5_others_61 rfl (lv_at hl 4 rfl) ?_
                refine va_get (D := (dC, dI)) (ci := 5) (v := .ref g_many) (C := RX5) (T := TX5) (N := 30) hx hb hts hi_5 hown hK hP 0 rfl rfl 4 (by decide) hf_17 (fun _ h9 => h9) rfl dX5_others_62 ?_
                refine lv_iload_n hx hb dX5_others_65 rfl (lv_at hl 2 rfl) ?_
                refine va_iald hx hb hK hP 2 0 rfl rfl (ki_in (om_10 LP1_h0) (om_424 w_1.2.2.2 i_13)) dX5_others_66 ?_
                refine lv_topi (fun y_59 ey_59 => ?_)
                have j_59 : y_59.toInt = (o_4 i.toNatClampNeg).toInt := congrArg Int32.toInt ey_59
                have n_60 : (i.toNatClampNeg : Int) = i.toInt := ki_nat _ rfl (om_10 LP1_h0)
                have i_61 := w_1.2.1 i.toNatClampNeg (om_ln n_60 (om_424 w_1.2.2.2 i_13))
                refine lv_icmp_ge (tgt := 140) hx hb dX5_others_67 (by decide) (fun c_62 => ?_) (fun c_62 => ?_)
                · have i_62 : y_59.toInt ≤ j.toInt := kc_le c_62
                  refine lv_iload_n hx hb dX5_others_140 rfl (lv_at hl 3 rfl) ?_
                  refine lv_iload_n hx hb dX5_others_141 rfl (lv_at hl 1 rfl) ?_
                  refine lv_if_eq (tgt := 149) hx hb dX5_others_142 (by decide) (fun c_63 => ?_) (fun c_63 => ?_)
                  · have i_63 : is.toInt = 0 := kc_eq c_63
                    refine lv_iconst (v := 1) hx hb dX5_others_149 (by decide) ?_
                    refine lv_iadd hx hb dX5_others_150 ?_
                    refine lv_topi (fun y_64 ey_64 => ?_)
                    refine lv_istore_n (lv' := [(1, .int y_64), (4, .int j), (3, .int is), (2, .int i), (0, .ref h0)]) hx hb dX5_others_151 rfl hl (by decide) rfl (fun ls hl => ?_)
                    obtain ⟨x_65, ex_65⟩ : ∃ y : Int32, y = i + 1 := ⟨_, rfl⟩
                    have i_65 : x_65.toInt = i.toInt + 1 := ki_add ex_65 rfl rfl (om_13 LP1_h0) (om_125 w_1.2.2.2 i_13)
                    refine lv_iinc (v := x_65) (lv' := [(2, .int x_65), (1, .int y_64), (4, .int j), (3, .int is), (0, .ref h0)]) hx hb dX5_others_152 hl (k := 3) rfl (by rw [ex_65]; rfl) (by decide) rfl (fun ls hl => ?_)
                    refine lv_goto (tgt := 12) hx hb dX5_others_155 (by decide) ?_
                    exact ih1 x_65 y_64 (om_34 LP1_h0 i_65) (om_mu hn1 (om_5 i_65) (om_6 i_13)) _ _ hP hD hS ls (lv_sub hl [0, 1, 4] rfl)
                  · have i_63 : ¬ is.toInt = 0 := kc_ne c_63
                    refine lv_iconst (v := 0) hx hb dX5_others_145 (by decide) ?_
                    refine lv_goto (tgt := 150) hx hb dX5_others_146 (by decide) ?_
                    refine lv_iadd hx hb dX5_others_150 ?_
                    refine lv_topi (fun y_66 ey_66 => ?_)
                    refine lv_istore_n (lv' := [(1, .int y_66), (4, .int j), (3, .int is), (2, .int i), (0, .ref h0)]) hx hb dX5_others_151 rfl hl (by decide) rfl (fun ls hl => ?_)
                    obtain ⟨x_67, ex_67⟩ : ∃ y : Int32, y = i + 1 := ⟨_, rfl⟩
                    have i_67 : x_67.toInt = i.toInt + 1 := ki_add ex_67 rfl rfl (om_13 LP1_h0) (om_125 w_1.2.2.2 i_13)
                    refine lv_iinc (v := x_67) (lv' := [(2, .int x_67), (1, .int y_66), (4, .int j), (3, .int is), (0, .ref h0)]) hx hb dX5_others_152 hl (k := 3) rfl (by rw [ex_67]; rfl) (by decide) rfl (fun ls hl => ?_)
                    refine lv_goto (tgt := 12) hx hb dX5_others_155 (by decide) ?_
                    exact ih1 x_67 y_66 (om_34 LP1_h0 i_67) (om_mu hn1 (om_5 i_67) (om_6 i_13)) _ _ hP hD hS ls (lv_sub hl [0, 1, 4] rfl)
                · have i_62 : j.toInt < y_59.toInt := kc_nle c_62
                  refine lv_iload_n hx hb dX5_others_70 rfl (lv_at hl 1 rfl) ?_
                  refine lv_if_eq (tgt := 140) hx hb dX5_others_71 (by decide) (fun c_68 => ?_) (fun c_68 => ?_)
                  · have i_68 : is.toInt = 0 := kc_eq c_68
                    refine lv_iload_n hx hb dX5_others_140 rfl (lv_at hl 3 rfl) ?_
                    refine lv_iload_n hx hb dX5_others_141 rfl (lv_at hl 1 rfl) ?_
                    refine lv_if_eq (tgt := 149) hx hb dX5_others_142 (by decide) (fun c_69 => ?_) (fun c_69 => ?_)
                    · have i_69 : is.toInt = 0 := kc_eq c_69
                      refine lv_iconst (v := 1) hx hb dX5_others_149 (by decide) ?_
                      refine lv_iadd hx hb dX5_others_150 ?_
                      refine lv_topi (fun y_70 ey_70 => ?_)
                      refine lv_istore_n (lv' := [(1, .int y_70), (4, .int j), (3, .int is), (2, .int i), (0, .ref h0)]) hx hb dX5_others_151 rfl hl (by decide) rfl (fun ls hl => ?_)
                      obtain ⟨x_71, ex_71⟩ : ∃ y : Int32, y = i + 1 := ⟨_, rfl⟩
                      have i_71 : x_71.toInt = i.toInt + 1 := ki_add ex_71 rfl rfl (om_13 LP1_h0) (om_125 w_1.2.2.2 i_13)
                      refine lv_iinc (v := x_71) (lv' := [(2, .int x_71), (1, .int y_70), (4, .int j), (3, .int is), (0, .ref h0)]) hx hb dX5_others_152 hl (k := 3) rfl (by rw [ex_71]; rfl) (by decide) rfl (fun ls hl => ?_)
                      refine lv_goto (tgt := 12) hx hb dX5_others_155 (by decide) ?_
                      exact ih1 x_71 y_70 (om_34 LP1_h0 i_71) (om_mu hn1 (om_5 i_71) (om_6 i_13)) _ _ hP hD hS ls (lv_sub hl [0, 1, 4] rfl)
                    · have i_69 : ¬ is.toInt = 0 := kc_ne c_69
                      refine lv_iconst (v := 0) hx hb dX5_others_145 (by decide) ?_
                      refine lv_goto (tgt := 150) hx hb dX5_others_146 (by decide) ?_
                      refine lv_iadd hx hb dX5_others_150 ?_
                      refine lv_topi (fun y_72 ey_72 => ?_)
                      refine lv_istore_n (lv' := [(1, .int y_72), (4, .int j), (3, .int is), (2, .int i), (0, .ref h0)]) hx hb dX5_others_151 rfl hl (by decide) rfl (fun ls hl => ?_)
                      obtain ⟨x_73, ex_73⟩ : ∃ y : Int32, y = i + 1 := ⟨_, rfl⟩
                      have i_73 : x_73.toInt = i.toInt + 1 := ki_add ex_73 rfl rfl (om_13 LP1_h0) (om_125 w_1.2.2.2 i_13)
                      refine lv_iinc (v := x_73) (lv' := [(2, .int x_73), (1, .int y_72), (4, .int j), (3, .int is), (0, .ref h0)]) hx hb dX5_others_152 hl (k := 3) rfl (by rw [ex_73]; rfl) (by decide) rfl (fun ls hl => ?_)
                      refine lv_goto (tgt := 12) hx hb dX5_others_155 (by decide) ?_
                      exact ih1 x_73 y_72 (om_34 LP1_h0 i_73) (om_mu hn1 (om_5 i_73) (om_6 i_13)) _ _ hP hD hS ls (lv_sub hl [0, 1, 4] rfl)
                  · have i_68 : ¬ is.toInt = 0 := kc_ne c_68
                    refine lv_aload_n hx hb dX5_others_74 rfl (lv_at hl 4 rfl) ?_
                    refine va_get (D := (dC, dI)) (ci := 5) (v := .ref g_voteValue) (C := RX5) (T := TX5) (N := 30) hx hb hts hi_5 hown hK hP 0 rfl rfl 7 (by decide) hf_26 (fun _ h9 => h9) rfl dX5_others_75 ?_
                    refine lv_bipush (v := 6) hx hb dX5_others_78 (by decide) ?_
                    refine lv_iload_n hx hb dX5_others_80 rfl (lv_at hl 2 rfl) ?_
                    refine lv_imul hx hb dX5_others_81 ?_
                    refine lv_topi (fun y_74 ey_74 => ?_)
                    have i_74 : y_74.toInt = 6 * i.toInt := ki_mul ey_74 rfl rfl (om_247 LP1_h0) (om_426 w_1.2.2.2 i_13)
                    refine lv_iload hx hb dX5_others_82 (lv_at hl 0 rfl) ?_
                    refine lv_iadd hx hb dX5_others_84 ?_
                    refine lv_topi (fun y_75 ey_75 => ?_)
                    have i_75 : y_75.toInt = y_74.toInt + j.toInt := ki_add ey_75 rfl rfl (om_251 LP1_h0 LP3_h0 i_74) (om_427 w_1.2.2.2 i_13 j_59 i_61.2 i_62 i_74)
                    refine va_iald hx hb hK hP 5 0 rfl rfl (ki_in (om_253 LP1_h0 LP3_h0 i_74 i_75) (om_428 w_1.2.2.2 i_13 j_59 i_61.2 i_62 i_74 i_75)) dX5_others_85 ?_
                    refine lv_topi (fun y_76 ey_76 => ?_)
                    have j_76 : y_76.toInt = (o_7 y_75.toNatClampNeg).toInt := congrArg Int32.toInt ey_76
                    refine lv_aload_n hx hb dX5_others_86 rfl (lv_at hl 4 rfl) ?_
                    refine va_get (D := (dC, dI)) (ci := 5) (v := .ref g_wasValue) (C := RX5) (T := TX5) (N := 30) hx hb hts hi_5 hown hK hP 0 rfl rfl 19 (by decide) hf_53 (fun _ h9 => h9) rfl dX5_others_87 ?_
                    refine lv_bipush (v := 6) hx hb dX5_others_90 (by decide) ?_
                    refine lv_iload_n hx hb dX5_others_92 rfl (lv_at hl 2 rfl) ?_
                    refine lv_imul hx hb dX5_others_93 ?_
                    refine lv_topi (fun y_77 ey_77 => ?_)
                    have i_77 : y_77.toInt = 6 * i.toInt := ki_mul ey_77 rfl rfl (om_247 LP1_h0) (om_426 w_1.2.2.2 i_13)
                    refine lv_iload hx hb dX5_others_94 (lv_at hl 0 rfl) ?_
                    refine lv_iadd hx hb dX5_others_96 ?_
                    refine lv_topi (fun y_78 ey_78 => ?_)
                    have i_78 : y_78.toInt = y_77.toInt + j.toInt := ki_add ey_78 rfl rfl (om_251 LP1_h0 LP3_h0 i_77) (om_427 w_1.2.2.2 i_13 j_59 i_61.2 i_62 i_77)
                    refine va_iald hx hb hK hP 13 0 rfl rfl (ki_in (om_253 LP1_h0 LP3_h0 i_77 i_78) (om_429 w_1.2.2.2 i_13 j_59 i_61.2 i_62 i_77 i_78)) dX5_others_97 ?_
                    refine lv_topi (fun y_79 ey_79 => ?_)
                    have j_79 : y_79.toInt = (wv y_78.toNatClampNeg).toInt := congrArg Int32.toInt ey_79
                    refine lv_icmp_ne (tgt := 132) hx hb dX5_others_98 (by decide) (fun c_80 => ?_) (fun c_80 => ?_)
                    · have i_80 : ¬ y_76.toInt = y_79.toInt := kc_ne c_80
                      refine lv_iconst (v := 0) hx hb dX5_others_132 (by decide) ?_
                      refine lv_istore_n (lv' := [(3, .int 0), (4, .int j), (2, .int i), (1, .int sm), (0, .ref h0)]) hx hb dX5_others_133 rfl hl (by decide) rfl (fun ls hl => ?_)
                      obtain ⟨x_81, ex_81⟩ : ∃ y : Int32, y = j + 1 := ⟨_, rfl⟩
                      have i_81 : x_81.toInt = j.toInt + 1 := ki_add ex_81 rfl rfl (om_13 LP3_h0) (om_101 j_59 i_61.2 i_62)
                      refine lv_iinc (v := x_81) (lv' := [(4, .int x_81), (3, .int 0), (2, .int i), (1, .int sm), (0, .ref h0)]) hx hb dX5_others_134 hl (k := 1) rfl (by rw [ex_81]; rfl) (by decide) rfl (fun ls hl => ?_)
                      refine lv_goto (tgt := 59) hx hb dX5_others_137 (by decide) ?_
                      have k_82 : (0 : Int32).toInt = 0 := rfl
                      exact ih3 x_81 0 (om_34 LP3_h0 i_81) (om_mu hn3 (om_102 i_81) (om_103 j_59 i_61.2 i_62)) _ _ hP hD hS ls (lv_sub hl [0, 1, 2, 3, 4] rfl)
                    · have i_80 : y_76.toInt = y_79.toInt := kc_eq c_80
                      refine lv_aload_n hx hb dX5_others_101 rfl (lv_at hl 4 rfl) ?_
                      refine va_get (D := (dC, dI)) (ci := 5) (v := .ref g_voteNumber) (C := RX5) (T := TX5) (N := 30) hx hb hts hi_5 hown hK hP 0 rfl rfl 8 (by decide) hf_29 (fun _ h9 => h9) rfl dX5_others_102 ?_
                      refine lv_bipush (v := 6) hx hb dX5_others_105 (by decide) ?_
                      refine lv_iload_n hx hb dX5_others_107 rfl (lv_at hl 2 rfl) ?_
                      refine lv_imul hx hb dX5_others_108 ?_
                      refine lv_topi (fun y_83 ey_83 => ?_)
                      have i_83 : y_83.toInt = 6 * i.toInt := ki_mul ey_83 rfl rfl (om_247 LP1_h0) (om_426 w_1.2.2.2 i_13)
                      refine lv_iload hx hb dX5_others_109 (lv_at hl 0 rfl) ?_
                      refine lv_iadd hx hb dX5_others_111 ?_
                      refine lv_topi (fun y_84 ey_84 => ?_)
                      have i_84 : y_84.toInt = y_83.toInt + j.toInt := ki_add ey_84 rfl rfl (om_251 LP1_h0 LP3_h0 i_83) (om_427 w_1.2.2.2 i_13 j_59 i_61.2 i_62 i_83)
                      refine va_iald hx hb hK hP 6 0 rfl rfl (ki_in (om_253 LP1_h0 LP3_h0 i_83 i_84) (om_428 w_1.2.2.2 i_13 j_59 i_61.2 i_62 i_83 i_84)) dX5_others_112 ?_
                      refine lv_topi (fun y_85 ey_85 => ?_)
                      have j_85 : y_85.toInt = (o_8 y_84.toNatClampNeg).toInt := congrArg Int32.toInt ey_85
                      refine lv_aload_n hx hb dX5_others_113 rfl (lv_at hl 4 rfl) ?_
                      refine va_get (D := (dC, dI)) (ci := 5) (v := .ref g_wasNumber) (C := RX5) (T := TX5) (N := 30) hx hb hts hi_5 hown hK hP 0 rfl rfl 20 (by decide) hf_56 (fun _ h9 => h9) rfl dX5_others_114 ?_
                      refine lv_bipush (v := 6) hx hb dX5_others_117 (by decide) ?_
                      refine lv_iload_n hx hb dX5_others_119 rfl (lv_at hl 2 rfl) ?_
                      refine lv_imul hx hb dX5_others_120 ?_
                      refine lv_topi (fun y_86 ey_86 => ?_)
                      have i_86 : y_86.toInt = 6 * i.toInt := ki_mul ey_86 rfl rfl (om_247 LP1_h0) (om_426 w_1.2.2.2 i_13)
                      refine lv_iload hx hb dX5_others_121 (lv_at hl 0 rfl) ?_
                      refine lv_iadd hx hb dX5_others_123 ?_
                      refine lv_topi (fun y_87 ey_87 => ?_)
                      have i_87 : y_87.toInt = y_86.toInt + j.toInt := ki_add ey_87 rfl rfl (om_251 LP1_h0 LP3_h0 i_86) (om_427 w_1.2.2.2 i_13 j_59 i_61.2 i_62 i_86)
                      refine va_iald hx hb hK hP 14 0 rfl rfl (ki_in (om_253 LP1_h0 LP3_h0 i_86 i_87) (om_429 w_1.2.2.2 i_13 j_59 i_61.2 i_62 i_86 i_87)) dX5_others_124 ?_
                      refine lv_topi (fun y_88 ey_88 => ?_)
                      have j_88 : y_88.toInt = (wn y_87.toNatClampNeg).toInt := congrArg Int32.toInt ey_88
                      refine lv_icmp_ne (tgt := 132) hx hb dX5_others_125 (by decide) (fun c_89 => ?_) (fun c_89 => ?_)
                      · have i_89 : ¬ y_85.toInt = y_88.toInt := kc_ne c_89
                        refine lv_iconst (v := 0) hx hb dX5_others_132 (by decide) ?_
                        refine lv_istore_n (lv' := [(3, .int 0), (4, .int j), (2, .int i), (1, .int sm), (0, .ref h0)]) hx hb dX5_others_133 rfl hl (by decide) rfl (fun ls hl => ?_)
                        obtain ⟨x_90, ex_90⟩ : ∃ y : Int32, y = j + 1 := ⟨_, rfl⟩
                        have i_90 : x_90.toInt = j.toInt + 1 := ki_add ex_90 rfl rfl (om_13 LP3_h0) (om_101 j_59 i_61.2 i_62)
                        refine lv_iinc (v := x_90) (lv' := [(4, .int x_90), (3, .int 0), (2, .int i), (1, .int sm), (0, .ref h0)]) hx hb dX5_others_134 hl (k := 1) rfl (by rw [ex_90]; rfl) (by decide) rfl (fun ls hl => ?_)
                        refine lv_goto (tgt := 59) hx hb dX5_others_137 (by decide) ?_
                        have k_91 : (0 : Int32).toInt = 0 := rfl
                        exact ih3 x_90 0 (om_34 LP3_h0 i_90) (om_mu hn3 (om_102 i_90) (om_103 j_59 i_61.2 i_62)) _ _ hP hD hS ls (lv_sub hl [0, 1, 2, 3, 4] rfl)
                      · have i_89 : y_85.toInt = y_88.toInt := kc_eq c_89
                        refine lv_iconst (v := 1) hx hb dX5_others_128 (by decide) ?_
                        refine lv_goto (tgt := 133) hx hb dX5_others_129 (by decide) ?_
                        refine lv_istore_n (lv' := [(3, .int 1), (4, .int j), (2, .int i), (1, .int sm), (0, .ref h0)]) hx hb dX5_others_133 rfl hl (by decide) rfl (fun ls hl => ?_)
                        obtain ⟨x_92, ex_92⟩ : ∃ y : Int32, y = j + 1 := ⟨_, rfl⟩
                        have i_92 : x_92.toInt = j.toInt + 1 := ki_add ex_92 rfl rfl (om_13 LP3_h0) (om_101 j_59 i_61.2 i_62)
                        refine lv_iinc (v := x_92) (lv' := [(4, .int x_92), (3, .int 1), (2, .int i), (1, .int sm), (0, .ref h0)]) hx hb dX5_others_134 hl (k := 1) rfl (by rw [ex_92]; rfl) (by decide) rfl (fun ls hl => ?_)
                        refine lv_goto (tgt := 59) hx hb dX5_others_137 (by decide) ?_
                        have k_93 : (1 : Int32).toInt = 1 := rfl
                        exact ih3 x_92 1 (om_34 LP3_h0 i_92) (om_mu hn3 (om_102 i_92) (om_103 j_59 i_61.2 i_62)) _ _ hP hD hS ls (lv_sub hl [0, 1, 2, 3, 4] rfl)
            have k_94 : (0 : Int32).toInt = 0 := rfl
            have k_95 : (0 : Int32).toInt = 0 := rfl
            exact LP3 ((6 - 0 : Int).toNat + 1) 0 0 om_35 (Nat.lt_succ_self _) _ _ hP hD hS ls (lv_sub hl [0, 1, 2, 3, 4] rfl)
          · have i_58 : y_56.toInt = y_57.toInt := kc_eq c_58
            refine lv_iconst (v := 1) hx hb dX5_others_50 (by decide) ?_
            refine lv_goto (tgt := 55) hx hb dX5_others_51 (by decide) ?_
            refine lv_istore_n (lv' := [(3, .int 1), (2, .int i), (1, .int sm), (0, .ref h0)]) hx hb dX5_others_55 rfl hl (by decide) rfl (fun ls hl => ?_)
            refine lv_iconst (v := 0) hx hb dX5_others_56 (by decide) ?_
            refine lv_istore (lv' := [(4, .int 0), (3, .int 1), (2, .int i), (1, .int sm), (0, .ref h0)]) hx hb dX5_others_57 hl (by decide) rfl (fun ls hl => ?_)
            have LP4 : ∀ (n : Nat) (j : Int32) (is : Int32), (0 ≤ j.toInt) → (6 - j.toInt).toNat < n → ∀ (H : Heap) (locs : List Loc), va_P (dC, dI) vwCl [kx_5 h0 g_row m_n m_slots m_thrown g_many g_loss g_less g_voteValue g_voteNumber g_allValue g_allNumber o_3 g_nodeL g_nodeR o_2 g_part m_partMany g_wasMany g_wasLoss g_wasValue g_wasNumber g_path m_pathMany g_heavyValue g_heavyTimes m_heavyMany g_fewest g_which g_met m_mostMet, kx_a g_row cyI 160 f, kx_a g_many cyI 324 o_4, kx_a g_loss cyI 324 o_5, kx_a g_less cyI 324 o_6, kx_a g_voteValue cyI 1944 o_7, kx_a g_voteNumber cyI 1944 o_8, kx_a g_allValue cyI 12 o_9, kx_a g_allNumber cyI 12 o_10, kx_a g_nodeL cyI 320 o_11, kx_a g_nodeR cyI 320 o_12, kx_a g_wasMany cyI 320 wm, kx_a g_wasLoss cyI 320 wl, kx_a g_wasValue cyI 1920 wv, kx_a g_wasNumber cyI 1920 wn] H → va_D A [kx_5 h0 g_row m_n m_slots m_thrown g_many g_loss g_less g_voteValue g_voteNumber g_allValue g_allNumber o_3 g_nodeL g_nodeR o_2 g_part m_partMany g_wasMany g_wasLoss g_wasValue g_wasNumber g_path m_pathMany g_heavyValue g_heavyTimes m_heavyMany g_fewest g_which g_met m_mostMet, kx_a g_row cyI 160 f, kx_a g_many cyI 324 o_4, kx_a g_loss cyI 324 o_5, kx_a g_less cyI 324 o_6, kx_a g_voteValue cyI 1944 o_7, kx_a g_voteNumber cyI 1944 o_8, kx_a g_allValue cyI 12 o_9, kx_a g_allNumber cyI 12 o_10, kx_a g_nodeL cyI 320 o_11, kx_a g_nodeR cyI 320 o_12, kx_a g_wasMany cyI 320 wm, kx_a g_wasLoss cyI 320 wl, kx_a g_wasValue cyI 1920 wv, kx_a g_wasNumber cyI 1920 wn] → va_S A s.heap H locs → ∀ (ls : Array Slot), lv_has ls 5 [(4, .int j), (3, .int is), (2, .int i), (1, .int sm), (0, .ref h0)] → W p l e (headSpec wsX5_others ({ frames := 12, cells := 0, slots := 0, locals := 540 })).room s m ([.ref h0] : List Value).toArray below meth c H locs 0 0 (MQ below (va_Qi (fun (r : Int32) (u : Int32 × Int32 × (Nat → Int32) × (Nat → Int32) × (Nat → Int32) × (Nat → Int32) × (Nat → Int32) × (Nat → Int32) × (Nat → Int32) × (Nat → Int32) × (Nat → Int32)) => six4 u.2.2.1) (fun (u : Int32 × Int32 × (Nat → Int32) × (Nat → Int32) × (Nat → Int32) × (Nat → Int32) × (Nat → Int32) × (Nat → Int32) × (Nat → Int32) × (Nat → Int32) × (Nat → Int32)) (t : State) => va_P (dC, dI) vwCl [kx_5 h0 g_row m_n m_slots m_thrown g_many g_loss g_less g_voteValue g_voteNumber g_allValue g_allNumber u.2.1 g_nodeL g_nodeR u.1 g_part m_partMany g_wasMany g_wasLoss g_wasValue g_wasNumber g_path m_pathMany g_heavyValue g_heavyTimes m_heavyMany g_fewest g_which g_met m_mostMet, kx_a g_row cyI 160 f, kx_a g_many cyI 324 u.2.2.1, kx_a g_loss cyI 324 u.2.2.2.1, kx_a g_less cyI 324 u.2.2.2.2.1, kx_a g_voteValue cyI 1944 u.2.2.2.2.2.1, kx_a g_voteNumber cyI 1944 u.2.2.2.2.2.2.1, kx_a g_allValue cyI 12 u.2.2.2.2.2.2.2.1, kx_a g_allNumber cyI 12 u.2.2.2.2.2.2.2.2.1, kx_a g_nodeL cyI 320 u.2.2.2.2.2.2.2.2.2.1, kx_a g_nodeR cyI 320 u.2.2.2.2.2.2.2.2.2.2, kx_a g_wasMany cyI 320 wm, kx_a g_wasLoss cyI 320 wl, kx_a g_wasValue cyI 1920 wv, kx_a g_wasNumber cyI 1920 wn] t.heap ∧ va_K (dC, dI) vwCl [(cyI, .int)] t ∧ va_D A [kx_5 h0 g_row m_n m_slots m_thrown g_many g_loss g_less g_voteValue g_voteNumber g_allValue g_allNumber u.2.1 g_nodeL g_nodeR u.1 g_part m_partMany g_wasMany g_wasLoss g_wasValue g_wasNumber g_path m_pathMany g_heavyValue g_heavyTimes m_heavyMany g_fewest g_which g_met m_mostMet, kx_a g_row cyI 160 f, kx_a g_many cyI 324 u.2.2.1, kx_a g_loss cyI 324 u.2.2.2.1, kx_a g_less cyI 324 u.2.2.2.2.1, kx_a g_voteValue cyI 1944 u.2.2.2.2.2.1, kx_a g_voteNumber cyI 1944 u.2.2.2.2.2.2.1, kx_a g_allValue cyI 12 u.2.2.2.2.2.2.2.1, kx_a g_allNumber cyI 12 u.2.2.2.2.2.2.2.2.1, kx_a g_nodeL cyI 320 u.2.2.2.2.2.2.2.2.2.1, kx_a g_nodeR cyI 320 u.2.2.2.2.2.2.2.2.2.2, kx_a g_wasMany cyI 320 wm, kx_a g_wasLoss cyI 320 wl, kx_a g_wasValue cyI 1920 wv, kx_a g_wasNumber cyI 1920 wn]) A) ([.ref h0] : List Value).toArray s 0 0 A) (F0 m 59 ls []) := by
              intro n
              induction n with
              | zero => intro j is LP4_h0 hn; exact absurd hn (Nat.not_lt_zero _)
              | succ n ih4 =>
                intro j is LP4_h0 hn4 H locs hP hD hS ls hl
                refine lv_iload hx hb dX5_others_59 (lv_at hl 0 rfl) ?_
                refine lv_aload_n hx hb dX5_others_61 rfl (lv_at hl 4 rfl) ?_
                refine va_get (D := (dC, dI)) (ci := 5) (v := .ref g_many) (C := RX5) (T := TX5) (N := 30) hx hb hts hi_5 hown hK hP 0 rfl rfl 4 (by decide) hf_17 (fun _ h9 => h9) rfl dX5_others_62 ?_
                refine lv_iload_n hx hb dX5_others_65 rfl (lv_at hl 2 rfl) ?_
                refine va_iald hx hb hK hP 2 0 rfl rfl (ki_in (om_10 LP1_h0) (om_424 w_1.2.2.2 i_13)) dX5_others_66 ?_
                refine lv_topi (fun y_96 ey_96 => ?_)
                have j_96 : y_96.toInt = (o_4 i.toNatClampNeg).toInt := congrArg Int32.toInt ey_96
                have n_97 : (i.toNatClampNeg : Int) = i.toInt := ki_nat _ rfl (om_10 LP1_h0)
                have i_98 := w_1.2.1 i.toNatClampNeg (om_ln n_97 (om_424 w_1.2.2.2 i_13))
                refine lv_icmp_ge (tgt := 140) hx hb dX5_others_67 (by decide) (fun c_99 => ?_) (fun c_99 => ?_)
                · have i_99 : y_96.toInt ≤ j.toInt := kc_le c_99
                  refine lv_iload_n hx hb dX5_others_140 rfl (lv_at hl 3 rfl) ?_
                  refine lv_iload_n hx hb dX5_others_141 rfl (lv_at hl 1 rfl) ?_
                  refine lv_if_eq (tgt := 149) hx hb dX5_others_142 (by decide) (fun c_100 => ?_) (fun c_100 => ?_)
                  · have i_100 : is.toInt = 0 := kc_eq c_100
                    refine lv_iconst (v := 1) hx hb dX5_others_149 (by decide) ?_
                    refine lv_iadd hx hb dX5_others_150 ?_
                    refine lv_topi (fun y_101 ey_101 => ?_)
                    refine lv_istore_n (lv' := [(1, .int y_101), (4, .int j), (3, .int is), (2, .int i), (0, .ref h0)]) hx hb dX5_others_151 rfl hl (by decide) rfl (fun ls hl => ?_)
                    obtain ⟨x_102, ex_102⟩ : ∃ y : Int32, y = i + 1 := ⟨_, rfl⟩
                    have i_102 : x_102.toInt = i.toInt + 1 := ki_add ex_102 rfl rfl (om_13 LP1_h0) (om_125 w_1.2.2.2 i_13)
                    refine lv_iinc (v := x_102) (lv' := [(2, .int x_102), (1, .int y_101), (4, .int j), (3, .int is), (0, .ref h0)]) hx hb dX5_others_152 hl (k := 3) rfl (by rw [ex_102]; rfl) (by decide) rfl (fun ls hl => ?_)
                    refine lv_goto (tgt := 12) hx hb dX5_others_155 (by decide) ?_
                    exact ih1 x_102 y_101 (om_34 LP1_h0 i_102) (om_mu hn1 (om_5 i_102) (om_6 i_13)) _ _ hP hD hS ls (lv_sub hl [0, 1, 4] rfl)
                  · have i_100 : ¬ is.toInt = 0 := kc_ne c_100
                    refine lv_iconst (v := 0) hx hb dX5_others_145 (by decide) ?_
                    refine lv_goto (tgt := 150) hx hb dX5_others_146 (by decide) ?_
                    refine lv_iadd hx hb dX5_others_150 ?_
                    refine lv_topi (fun y_103 ey_103 => ?_)
                    refine lv_istore_n (lv' := [(1, .int y_103), (4, .int j), (3, .int is), (2, .int i), (0, .ref h0)]) hx hb dX5_others_151 rfl hl (by decide) rfl (fun ls hl => ?_)
                    obtain ⟨x_104, ex_104⟩ : ∃ y : Int32, y = i + 1 := ⟨_, rfl⟩
                    have i_104 : x_104.toInt = i.toInt + 1 := ki_add ex_104 rfl rfl (om_13 LP1_h0) (om_125 w_1.2.2.2 i_13)
                    refine lv_iinc (v := x_104) (lv' := [(2, .int x_104), (1, .int y_103), (4, .int j), (3, .int is), (0, .ref h0)]) hx hb dX5_others_152 hl (k := 3) rfl (by rw [ex_104]; rfl) (by decide) rfl (fun ls hl => ?_)
                    refine lv_goto (tgt := 12) hx hb dX5_others_155 (by decide) ?_
                    exact ih1 x_104 y_103 (om_34 LP1_h0 i_104) (om_mu hn1 (om_5 i_104) (om_6 i_13)) _ _ hP hD hS ls (lv_sub hl [0, 1, 4] rfl)
                · have i_99 : j.toInt < y_96.toInt := kc_nle c_99
                  refine lv_iload_n hx hb dX5_others_70 rfl (lv_at hl 1 rfl) ?_
                  refine lv_if_eq (tgt := 140) hx hb dX5_others_71 (by decide) (fun c_105 => ?_) (fun c_105 => ?_)
                  · have i_105 : is.toInt = 0 := kc_eq c_105
                    refine lv_iload_n hx hb dX5_others_140 rfl (lv_at hl 3 rfl) ?_
                    refine lv_iload_n hx hb dX5_others_141 rfl (lv_at hl 1 rfl) ?_
                    refine lv_if_eq (tgt := 149) hx hb dX5_others_142 (by decide) (fun c_106 => ?_) (fun c_106 => ?_)
                    · have i_106 : is.toInt = 0 := kc_eq c_106
                      refine lv_iconst (v := 1) hx hb dX5_others_149 (by decide) ?_
                      refine lv_iadd hx hb dX5_others_150 ?_
                      refine lv_topi (fun y_107 ey_107 => ?_)
                      refine lv_istore_n (lv' := [(1, .int y_107), (4, .int j), (3, .int is), (2, .int i), (0, .ref h0)]) hx hb dX5_others_151 rfl hl (by decide) rfl (fun ls hl => ?_)
                      obtain ⟨x_108, ex_108⟩ : ∃ y : Int32, y = i + 1 := ⟨_, rfl⟩
                      have i_108 : x_108.toInt = i.toInt + 1 := ki_add ex_108 rfl rfl (om_13 LP1_h0) (om_125 w_1.2.2.2 i_13)
                      refine lv_iinc (v := x_108) (lv' := [(2, .int x_108), (1, .int y_107), (4, .int j), (3, .int is), (0, .ref h0)]) hx hb dX5_others_152 hl (k := 3) rfl (by rw [ex_108]; rfl) (by decide) rfl (fun ls hl => ?_)
                      refine lv_goto (tgt := 12) hx hb dX5_others_155 (by decide) ?_
                      exact ih1 x_108 y_107 (om_34 LP1_h0 i_108) (om_mu hn1 (om_5 i_108) (om_6 i_13)) _ _ hP hD hS ls (lv_sub hl [0, 1, 4] rfl)
                    · have i_106 : ¬ is.toInt = 0 := kc_ne c_106
                      refine lv_iconst (v := 0) hx hb dX5_others_145 (by decide) ?_
                      refine lv_goto (tgt := 150) hx hb dX5_others_146 (by decide) ?_
                      refine lv_iadd hx hb dX5_others_150 ?_
                      refine lv_topi (fun y_109 ey_109 => ?_)
                      refine lv_istore_n (lv' := [(1, .int y_109), (4, .int j), (3, .int is), (2, .int i), (0, .ref h0)]) hx hb dX5_others_151 rfl hl (by decide) rfl (fun ls hl => ?_)
                      obtain ⟨x_110, ex_110⟩ : ∃ y : Int32, y = i + 1 := ⟨_, rfl⟩
                      have i_110 : x_110.toInt = i.toInt + 1 := ki_add ex_110 rfl rfl (om_13 LP1_h0) (om_125 w_1.2.2.2 i_13)
                      refine lv_iinc (v := x_110) (lv' := [(2, .int x_110), (1, .int y_109), (4, .int j), (3, .int is), (0, .ref h0)]) hx hb dX5_others_152 hl (k := 3) rfl (by rw [ex_110]; rfl) (by decide) rfl (fun ls hl => ?_)
                      refine lv_goto (tgt := 12) hx hb dX5_others_155 (by decide) ?_
                      exact ih1 x_110 y_109 (om_34 LP1_h0 i_110) (om_mu hn1 (om_5 i_110) (om_6 i_13)) _ _ hP hD hS ls (lv_sub hl [0, 1, 4] rfl)
                  · have i_105 : ¬ is.toInt = 0 := kc_ne c_105
                    refine lv_aload_n hx hb dX5_others_74 rfl (lv_at hl 4 rfl) ?_
                    refine va_get (D := (dC, dI)) (ci := 5) (v := .ref g_voteValue) (C := RX5) (T := TX5) (N := 30) hx hb hts hi_5 hown hK hP 0 rfl rfl 7 (by decide) hf_26 (fun _ h9 => h9) rfl dX5_others_75 ?_
                    refine lv_bipush (v := 6) hx hb dX5_others_78 (by decide) ?_
                    refine lv_iload_n hx hb dX5_others_80 rfl (lv_at hl 2 rfl) ?_
                    refine lv_imul hx hb dX5_others_81 ?_
                    refine lv_topi (fun y_111 ey_111 => ?_)
                    have i_111 : y_111.toInt = 6 * i.toInt := ki_mul ey_111 rfl rfl (om_247 LP1_h0) (om_426 w_1.2.2.2 i_13)
                    refine lv_iload hx hb dX5_others_82 (lv_at hl 0 rfl) ?_
                    refine lv_iadd hx hb dX5_others_84 ?_
                    refine lv_topi (fun y_112 ey_112 => ?_)
                    have i_112 : y_112.toInt = y_111.toInt + j.toInt := ki_add ey_112 rfl rfl (om_251 LP1_h0 LP4_h0 i_111) (om_427 w_1.2.2.2 i_13 j_96 i_98.2 i_99 i_111)
                    refine va_iald hx hb hK hP 5 0 rfl rfl (ki_in (om_253 LP1_h0 LP4_h0 i_111 i_112) (om_428 w_1.2.2.2 i_13 j_96 i_98.2 i_99 i_111 i_112)) dX5_others_85 ?_
                    refine lv_topi (fun y_113 ey_113 => ?_)
                    have j_113 : y_113.toInt = (o_7 y_112.toNatClampNeg).toInt := congrArg Int32.toInt ey_113
                    refine lv_aload_n hx hb dX5_others_86 rfl (lv_at hl 4 rfl) ?_
                    refine va_get (D := (dC, dI)) (ci := 5) (v := .ref g_wasValue) (C := RX5) (T := TX5) (N := 30) hx hb hts hi_5 hown hK hP 0 rfl rfl 19 (by decide) hf_53 (fun _ h9 => h9) rfl dX5_others_87 ?_
                    refine lv_bipush (v := 6) hx hb dX5_others_90 (by decide) ?_
                    refine lv_iload_n hx hb dX5_others_92 rfl (lv_at hl 2 rfl) ?_
                    refine lv_imul hx hb dX5_others_93 ?_
                    refine lv_topi (fun y_114 ey_114 => ?_)
                    have i_114 : y_114.toInt = 6 * i.toInt := ki_mul ey_114 rfl rfl (om_247 LP1_h0) (om_426 w_1.2.2.2 i_13)
                    refine lv_iload hx hb dX5_others_94 (lv_at hl 0 rfl) ?_
                    refine lv_iadd hx hb dX5_others_96 ?_
                    refine lv_topi (fun y_115 ey_115 => ?_)
                    have i_115 : y_115.toInt = y_114.toInt + j.toInt := ki_add ey_115 rfl rfl (om_251 LP1_h0 LP4_h0 i_114) (om_427 w_1.2.2.2 i_13 j_96 i_98.2 i_99 i_114)
                    refine va_iald hx hb hK hP 13 0 rfl rfl (ki_in (om_253 LP1_h0 LP4_h0 i_114 i_115) (om_429 w_1.2.2.2 i_13 j_96 i_98.2 i_99 i_114 i_115)) dX5_others_97 ?_
                    refine lv_topi (fun y_116 ey_116 => ?_)
                    have j_116 : y_116.toInt = (wv y_115.toNatClampNeg).toInt := congrArg Int32.toInt ey_116
                    refine lv_icmp_ne (tgt := 132) hx hb dX5_others_98 (by decide) (fun c_117 => ?_) (fun c_117 => ?_)
                    · have i_117 : ¬ y_113.toInt = y_116.toInt := kc_ne c_117
                      refine lv_iconst (v := 0) hx hb dX5_others_132 (by decide) ?_
                      refine lv_istore_n (lv' := [(3, .int 0), (4, .int j), (2, .int i), (1, .int sm), (0, .ref h0)]) hx hb dX5_others_133 rfl hl (by decide) rfl (fun ls hl => ?_)
                      obtain ⟨x_118, ex_118⟩ : ∃ y : Int32, y = j + 1 := ⟨_, rfl⟩
                      have i_118 : x_118.toInt = j.toInt + 1 := ki_add ex_118 rfl rfl (om_13 LP4_h0) (om_101 j_96 i_98.2 i_99)
                      refine lv_iinc (v := x_118) (lv' := [(4, .int x_118), (3, .int 0), (2, .int i), (1, .int sm), (0, .ref h0)]) hx hb dX5_others_134 hl (k := 1) rfl (by rw [ex_118]; rfl) (by decide) rfl (fun ls hl => ?_)
                      refine lv_goto (tgt := 59) hx hb dX5_others_137 (by decide) ?_
                      have k_119 : (0 : Int32).toInt = 0 := rfl
                      exact ih4 x_118 0 (om_34 LP4_h0 i_118) (om_mu hn4 (om_102 i_118) (om_103 j_96 i_98.2 i_99)) _ _ hP hD hS ls (lv_sub hl [0, 1, 2, 3, 4] rfl)
                    · have i_117 : y_113.toInt = y_116.toInt := kc_eq c_117
                      refine lv_aload_n hx hb dX5_others_101 rfl (lv_at hl 4 rfl) ?_
                      refine va_get (D := (dC, dI)) (ci := 5) (v := .ref g_voteNumber) (C := RX5) (T := TX5) (N := 30) hx hb hts hi_5 hown hK hP 0 rfl rfl 8 (by decide) hf_29 (fun _ h9 => h9) rfl dX5_others_102 ?_
                      refine lv_bipush (v := 6) hx hb dX5_others_105 (by decide) ?_
                      refine lv_iload_n hx hb dX5_others_107 rfl (lv_at hl 2 rfl) ?_
                      refine lv_imul hx hb dX5_others_108 ?_
                      refine lv_topi (fun y_120 ey_120 => ?_)
                      have i_120 : y_120.toInt = 6 * i.toInt := ki_mul ey_120 rfl rfl (om_247 LP1_h0) (om_426 w_1.2.2.2 i_13)
                      refine lv_iload hx hb dX5_others_109 (lv_at hl 0 rfl) ?_
                      refine lv_iadd hx hb dX5_others_111 ?_
                      refine lv_topi (fun y_121 ey_121 => ?_)
                      have i_121 : y_121.toInt = y_120.toInt + j.toInt := ki_add ey_121 rfl rfl (om_251 LP1_h0 LP4_h0 i_120) (om_427 w_1.2.2.2 i_13 j_96 i_98.2 i_99 i_120)
                      refine va_iald hx hb hK hP 6 0 rfl rfl (ki_in (om_253 LP1_h0 LP4_h0 i_120 i_121) (om_428 w_1.2.2.2 i_13 j_96 i_98.2 i_99 i_120 i_121)) dX5_others_112 ?_
                      refine lv_topi (fun y_122 ey_122 => ?_)
                      have j_122 : y_122.toInt = (o_8 y_121.toNatClampNeg).toInt := congrArg Int32.toInt ey_122
                      refine lv_aload_n hx hb dX5_others_113 rfl (lv_at hl 4 rfl) ?_
                      refine va_get (D := (dC, dI)) (ci := 5) (v := .ref g_wasNumber) (C := RX5) (T := TX5) (N := 30) hx hb hts hi_5 hown hK hP 0 rfl rfl 20 (by decide) hf_56 (fun _ h9 => h9) rfl dX5_others_114 ?_
                      refine lv_bipush (v := 6) hx hb dX5_others_117 (by decide) ?_
                      refine lv_iload_n hx hb dX5_others_119 rfl (lv_at hl 2 rfl) ?_
                      refine lv_imul hx hb dX5_others_120 ?_
                      refine lv_topi (fun y_123 ey_123 => ?_)
                      have i_123 : y_123.toInt = 6 * i.toInt := ki_mul ey_123 rfl rfl (om_247 LP1_h0) (om_426 w_1.2.2.2 i_13)
                      refine lv_iload hx hb dX5_others_121 (lv_at hl 0 rfl) ?_
                      refine lv_iadd hx hb dX5_others_123 ?_
                      refine lv_topi (fun y_124 ey_124 => ?_)
                      have i_124 : y_124.toInt = y_123.toInt + j.toInt := ki_add ey_124 rfl rfl (om_251 LP1_h0 LP4_h0 i_123) (om_427 w_1.2.2.2 i_13 j_96 i_98.2 i_99 i_123)
                      refine va_iald hx hb hK hP 14 0 rfl rfl (ki_in (om_253 LP1_h0 LP4_h0 i_123 i_124) (om_429 w_1.2.2.2 i_13 j_96 i_98.2 i_99 i_123 i_124)) dX5_others_124 ?_
                      refine lv_topi (fun y_125 ey_125 => ?_)
                      have j_125 : y_125.toInt = (wn y_124.toNatClampNeg).toInt := congrArg Int32.toInt ey_125
                      refine lv_icmp_ne (tgt := 132) hx hb dX5_others_125 (by decide) (fun c_126 => ?_) (fun c_126 => ?_)
                      · have i_126 : ¬ y_122.toInt = y_125.toInt := kc_ne c_126
                        refine lv_iconst (v := 0) hx hb dX5_others_132 (by decide) ?_
                        refine lv_istore_n (lv' := [(3, .int 0), (4, .int j), (2, .int i), (1, .int sm), (0, .ref h0)]) hx hb dX5_others_133 rfl hl (by decide) rfl (fun ls hl => ?_)
                        obtain ⟨x_127, ex_127⟩ : ∃ y : Int32, y = j + 1 := ⟨_, rfl⟩
                        have i_127 : x_127.toInt = j.toInt + 1 := ki_add ex_127 rfl rfl (om_13 LP4_h0) (om_101 j_96 i_98.2 i_99)
                        refine lv_iinc (v := x_127) (lv' := [(4, .int x_127), (3, .int 0), (2, .int i), (1, .int sm), (0, .ref h0)]) hx hb dX5_others_134 hl (k := 1) rfl (by rw [ex_127]; rfl) (by decide) rfl (fun ls hl => ?_)
                        refine lv_goto (tgt := 59) hx hb dX5_others_137 (by decide) ?_
                        have k_128 : (0 : Int32).toInt = 0 := rfl
                        exact ih4 x_127 0 (om_34 LP4_h0 i_127) (om_mu hn4 (om_102 i_127) (om_103 j_96 i_98.2 i_99)) _ _ hP hD hS ls (lv_sub hl [0, 1, 2, 3, 4] rfl)
                      · have i_126 : y_122.toInt = y_125.toInt := kc_eq c_126
                        refine lv_iconst (v := 1) hx hb dX5_others_128 (by decide) ?_
                        refine lv_goto (tgt := 133) hx hb dX5_others_129 (by decide) ?_
                        refine lv_istore_n (lv' := [(3, .int 1), (4, .int j), (2, .int i), (1, .int sm), (0, .ref h0)]) hx hb dX5_others_133 rfl hl (by decide) rfl (fun ls hl => ?_)
                        obtain ⟨x_129, ex_129⟩ : ∃ y : Int32, y = j + 1 := ⟨_, rfl⟩
                        have i_129 : x_129.toInt = j.toInt + 1 := ki_add ex_129 rfl rfl (om_13 LP4_h0) (om_101 j_96 i_98.2 i_99)
                        refine lv_iinc (v := x_129) (lv' := [(4, .int x_129), (3, .int 1), (2, .int i), (1, .int sm), (0, .ref h0)]) hx hb dX5_others_134 hl (k := 1) rfl (by rw [ex_129]; rfl) (by decide) rfl (fun ls hl => ?_)
                        refine lv_goto (tgt := 59) hx hb dX5_others_137 (by decide) ?_
                        have k_130 : (1 : Int32).toInt = 1 := rfl
                        exact ih4 x_129 1 (om_34 LP4_h0 i_129) (om_mu hn4 (om_102 i_129) (om_103 j_96 i_98.2 i_99)) _ _ hP hD hS ls (lv_sub hl [0, 1, 2, 3, 4] rfl)
            have k_131 : (0 : Int32).toInt = 0 := rfl
            have k_132 : (1 : Int32).toInt = 1 := rfl
            exact LP4 ((6 - 0 : Int).toNat + 1) 0 1 om_35 (Nat.lt_succ_self _) _ _ hP hD hS ls (lv_sub hl [0, 1, 2, 3, 4] rfl)
  have k_133 : (0 : Int32).toInt = 0 := rfl
  have k_134 : (0 : Int32).toInt = 0 := rfl
  exact LP1 ((o_2.toInt - 0 : Int).toNat + 1) 0 0 om_35 (Nat.lt_succ_self _) _ _ hP hD hS ls (lv_sub hl [0, 1, 2] rfl)

set_option maxHeartbeats 4000000 in
set_option maxRecDepth 100000 in
theorem c_X5_exchanges (l : Launch) (dC : Nat → ClassId) (dI : Nat → Nat → Nat) (h0 : Nat) (g_row : Nat) (g_many : Nat) (g_loss : Nat) (g_less : Nat) (g_voteValue : Nat) (g_voteNumber : Nat) (g_allValue : Nat) (g_allNumber : Nat) (g_nodeL : Nat) (g_nodeR : Nat) (g_part : Nat) (g_wasMany : Nat) (g_wasLoss : Nat) (g_wasValue : Nat) (g_wasNumber : Nat) (g_path : Nat) (g_heavyValue : Nat) (g_heavyTimes : Nat) (g_fewest : Nat) (g_which : Nat) (g_met : Nat) (m_n : Int32) (m_slots : Int32) (m_thrown : Int32) (m_allMany : Int32) (m_nodes : Int32) (m_partMany : Int32) (m_pathMany : Int32) (m_heavyMany : Int32) (m_mostMet : Int32) (cyI : ClassId) (f : Nat → Int32) (p0 : Int32) (p1 : Int32) (sz : Nat) (b0 : 0 ≤ p0.toInt) (b1 : p0.toInt < 160) (b2 : 0 ≤ p1.toInt) (b3 : p1.toInt < 160) : kx_MQ l (dC, dI) yX5_exchanges wsX5_exchanges ({ frames := 0, cells := 0, slots := 0, locals := 0 }) [.ref h0, .int p0, .int p1] [kx_5 h0 g_row m_n m_slots m_thrown g_many g_loss g_less g_voteValue g_voteNumber g_allValue g_allNumber m_allMany g_nodeL g_nodeR m_nodes g_part m_partMany g_wasMany g_wasLoss g_wasValue g_wasNumber g_path m_pathMany g_heavyValue g_heavyTimes m_heavyMany g_fewest g_which g_met m_mostMet, kx_a g_row cyI 160 f] [(cyI, .int)] sz (fun A => va_Qv (fun u : (Nat → Int32) => u = mj_ex f p0.toNatClampNeg p1.toNatClampNeg) (fun (u : (Nat → Int32)) (t : State) => va_P (dC, dI) vwCl [kx_5 h0 g_row m_n m_slots m_thrown g_many g_loss g_less g_voteValue g_voteNumber g_allValue g_allNumber m_allMany g_nodeL g_nodeR m_nodes g_part m_partMany g_wasMany g_wasLoss g_wasValue g_wasNumber g_path m_pathMany g_heavyValue g_heavyTimes m_heavyMany g_fewest g_which g_met m_mostMet, kx_a g_row cyI 160 u] t.heap ∧ va_K (dC, dI) vwCl [(cyI, .int)] t ∧ va_D A [kx_5 h0 g_row m_n m_slots m_thrown g_many g_loss g_less g_voteValue g_voteNumber g_allValue g_allNumber m_allMany g_nodeL g_nodeR m_nodes g_part m_partMany g_wasMany g_wasLoss g_wasValue g_wasNumber g_path m_pathMany g_heavyValue g_heavyTimes m_heavyMany g_fewest g_which g_met m_mostMet, kx_a g_row cyI 160 u]) A) := by
  refine kx_stQ (ws := wsX5_exchanges) (cc := cX5_exchanges) (maxL := 4) (ret := none) (by decide) rfl (Nat.le_of_ble_eq_true rfl) ?_
  intro p e s m below meth c A ls hx hb hr hlocks hts hown hml hA hS hP hK hD hl
  have hown : s.vm.findClass RX5 = some m.cls := hown
  have hl : lv_has ls 4 [(0, .ref h0), (1, .int p0), (2, .int p1)] := hl
  have hf_7 := hts (.fieldLink RX5 7 "MajorityIndexModel" "row" "[I") (List.mem_of_getElem? (i := 1) rfl)
  have hi_5 : ∀ w ∈ u_ws RX5 TX5 30, w ∈ wsX5_exchanges := fun w h => List.mem_cons_of_mem _ (List.mem_append_right _ h)
  refine lv_aload_n hx hb dX5_exchanges_0 rfl (lv_at hl 0 rfl) ?_
  refine va_get (D := (dC, dI)) (ci := 5) (v := .ref g_row) (C := RX5) (T := TX5) (N := 30) hx hb hts hi_5 hown hK hP 0 rfl rfl 0 (by decide) hf_7 (fun _ h9 => h9) rfl dX5_exchanges_1 ?_
  refine lv_iload_n hx hb dX5_exchanges_4 rfl (lv_at hl 1 rfl) ?_
  refine va_iald hx hb hK hP 1 0 rfl rfl (ki_in (om_10 b0) (om_12 b1)) dX5_exchanges_5 ?_
  refine lv_topi (fun y_1 ey_1 => ?_)
  have j_1 : y_1.toInt = (f p0.toNatClampNeg).toInt := congrArg Int32.toInt ey_1
  refine lv_istore_n (lv' := [(3, .int y_1), (0, .ref h0), (1, .int p0), (2, .int p1)]) hx hb dX5_exchanges_6 rfl hl (by decide) rfl (fun ls hl => ?_)
  refine lv_aload_n hx hb dX5_exchanges_7 rfl (lv_at hl 1 rfl) ?_
  refine va_get (D := (dC, dI)) (ci := 5) (v := .ref g_row) (C := RX5) (T := TX5) (N := 30) hx hb hts hi_5 hown hK hP 0 rfl rfl 0 (by decide) hf_7 (fun _ h9 => h9) rfl dX5_exchanges_8 ?_
  refine lv_iload_n hx hb dX5_exchanges_11 rfl (lv_at hl 2 rfl) ?_
  refine lv_aload_n hx hb dX5_exchanges_12 rfl (lv_at hl 1 rfl) ?_
  refine va_get (D := (dC, dI)) (ci := 5) (v := .ref g_row) (C := RX5) (T := TX5) (N := 30) hx hb hts hi_5 hown hK hP 0 rfl rfl 0 (by decide) hf_7 (fun _ h9 => h9) rfl dX5_exchanges_13 ?_
  refine lv_iload_n hx hb dX5_exchanges_16 rfl (lv_at hl 3 rfl) ?_
  refine va_iald hx hb hK hP 1 0 rfl rfl (ki_in (om_10 b2) (om_12 b3)) dX5_exchanges_17 ?_
  refine lv_topi (fun y_2 ey_2 => ?_)
  have j_2 : y_2.toInt = (f p1.toNatClampNeg).toInt := congrArg Int32.toInt ey_2
  refine va_iast hx hb hK hP hD hS 1 0 rfl rfl (ki_in (om_10 b0) (om_12 b1)) dX5_exchanges_18 (fun H locs hP hD hS => ?_)
  obtain ⟨hP, hD⟩ := kx_re (w2 := [kx_5 h0 g_row m_n m_slots m_thrown g_many g_loss g_less g_voteValue g_voteNumber g_allValue g_allNumber m_allMany g_nodeL g_nodeR m_nodes g_part m_partMany g_wasMany g_wasLoss g_wasValue g_wasNumber g_path m_pathMany g_heavyValue g_heavyTimes m_heavyMany g_fewest g_which g_met m_mostMet, kx_a g_row cyI 160 (upd f p0.toNatClampNeg y_2)]) hP hD rfl
  refine lv_aload_n hx hb dX5_exchanges_19 rfl (lv_at hl 1 rfl) ?_
  refine va_get (D := (dC, dI)) (ci := 5) (v := .ref g_row) (C := RX5) (T := TX5) (N := 30) hx hb hts hi_5 hown hK hP 0 rfl rfl 0 (by decide) hf_7 (fun _ h9 => h9) rfl dX5_exchanges_20 ?_
  refine lv_iload_n hx hb dX5_exchanges_23 rfl (lv_at hl 3 rfl) ?_
  refine lv_iload_n hx hb dX5_exchanges_24 rfl (lv_at hl 0 rfl) ?_
  refine va_iast hx hb hK hP hD hS 1 0 rfl rfl (ki_in (om_10 b2) (om_12 b3)) dX5_exchanges_25 (fun H locs hP hD hS => ?_)
  obtain ⟨hP, hD⟩ := kx_re (w2 := [kx_5 h0 g_row m_n m_slots m_thrown g_many g_loss g_less g_voteValue g_voteNumber g_allValue g_allNumber m_allMany g_nodeL g_nodeR m_nodes g_part m_partMany g_wasMany g_wasLoss g_wasValue g_wasNumber g_path m_pathMany g_heavyValue g_heavyTimes m_heavyMany g_fewest g_which g_met m_mostMet, kx_a g_row cyI 160 (upd (upd f p0.toNatClampNeg y_2) p1.toNatClampNeg y_1)]) hP hD rfl
  have hP9 := hP
  have hD9 := hD
  have hK9 := hK
  exact W.vret hx hb hr (hlocks := hlocks) (fun t ht hW => ⟨⟨((upd (upd f p0.toNatClampNeg y_2) p1.toNatClampNeg y_1)), rfl, (by (try dsimp only); rw [ey_2, ey_1]; rfl), by rw [ht]; exact hP9, va_K.moved hW.alike hK9, hD9⟩, hS.F ht⟩) hS.2.2 dX5_exchanges_26

set_option maxHeartbeats 4000000 in
set_option maxRecDepth 100000 in
theorem c_X5_set (l : Launch) (dC : Nat → ClassId) (dI : Nat → Nat → Nat) (h0 : Nat) (g_row : Nat) (g_many : Nat) (g_loss : Nat) (g_less : Nat) (g_voteValue : Nat) (g_voteNumber : Nat) (g_allValue : Nat) (g_allNumber : Nat) (g_nodeL : Nat) (g_nodeR : Nat) (g_part : Nat) (g_wasMany : Nat) (g_wasLoss : Nat) (g_wasValue : Nat) (g_wasNumber : Nat) (g_path : Nat) (g_heavyValue : Nat) (g_heavyTimes : Nat) (g_fewest : Nat) (g_which : Nat) (g_met : Nat) (m_n : Int32) (m_slots : Int32) (m_thrown : Int32) (m_allMany : Int32) (m_nodes : Int32) (m_partMany : Int32) (m_pathMany : Int32) (m_heavyMany : Int32) (m_mostMet : Int32) (cyI : ClassId) (fm : Nat → Int32) (fl : Nat → Int32) (fe : Nat → Int32) (vv : Nat → Int32) (vn : Nat → Int32) (f : Nat → Int32) (av : Nat → Int32) (an : Nat → Int32) (nl : Nat → Int32) (nr : Nat → Int32) (wm : Nat → Int32) (wl : Nat → Int32) (wv : Nat → Int32) (wn : Nat → Int32) (p0 : Int32) (p1 : Int32) (sz : Nat) (a0 : 0 ≤ m_n.toInt) (a1 : m_n.toInt ≤ 160) (sl0 : 1 ≤ m_slots.toInt) (sl1 : m_slots.toInt ≤ 6) (s4 : six4 fm) (s1 : shorts f) : kx_MQ l (dC, dI) yX5_set wsX5_set ({ frames := 13, cells := 0, slots := 0, locals := 585 }) [.ref h0, .int p0, .int p1] [kx_5 h0 g_row m_n m_slots m_thrown g_many g_loss g_less g_voteValue g_voteNumber g_allValue g_allNumber m_allMany g_nodeL g_nodeR m_nodes g_part m_partMany g_wasMany g_wasLoss g_wasValue g_wasNumber g_path m_pathMany g_heavyValue g_heavyTimes m_heavyMany g_fewest g_which g_met m_mostMet, kx_a g_row cyI 160 f, kx_a g_many cyI 324 fm, kx_a g_loss cyI 324 fl, kx_a g_less cyI 324 fe, kx_a g_voteValue cyI 1944 vv, kx_a g_voteNumber cyI 1944 vn, kx_a g_allValue cyI 12 av, kx_a g_allNumber cyI 12 an, kx_a g_nodeL cyI 320 nl, kx_a g_nodeR cyI 320 nr, kx_a g_wasMany cyI 320 wm, kx_a g_wasLoss cyI 320 wl, kx_a g_wasValue cyI 1920 wv, kx_a g_wasNumber cyI 1920 wn] [(cyI, .int)] sz (fun A => va_Qi (fun (r : Int32) (u : Int32 × Int32 × (Nat → Int32) × (Nat → Int32) × (Nat → Int32) × (Nat → Int32) × (Nat → Int32) × (Nat → Int32) × (Nat → Int32) × (Nat → Int32) × (Nat → Int32) × (Nat → Int32) × (Nat → Int32) × (Nat → Int32) × (Nat → Int32) × (Nat → Int32)) => (((0 ≤ p0.toInt ∧ p0.toInt < m_n.toInt ∧ -32768 ≤ p1.toInt ∧ p1.toInt ≤ 32767) ∧ u.2.2.2.2.2.2.2.2.2.2.2.2.2.2.2 = upd f p0.toNatClampNeg p1) ∨ ((p0.toInt < 0 ∨ m_n.toInt ≤ p0.toInt ∨ p1.toInt < -32768 ∨ 32767 < p1.toInt) ∧ u.2.2.2.2.2.2.2.2.2.2.2.2.2.2.2 = f ∧ r = -1)) ∧ shorts u.2.2.2.2.2.2.2.2.2.2.2.2.2.2.2 ∧ six4 u.2.2.1) (fun (u : Int32 × Int32 × (Nat → Int32) × (Nat → Int32) × (Nat → Int32) × (Nat → Int32) × (Nat → Int32) × (Nat → Int32) × (Nat → Int32) × (Nat → Int32) × (Nat → Int32) × (Nat → Int32) × (Nat → Int32) × (Nat → Int32) × (Nat → Int32) × (Nat → Int32)) (t : State) => va_P (dC, dI) vwCl [kx_5 h0 g_row m_n m_slots 0 g_many g_loss g_less g_voteValue g_voteNumber g_allValue g_allNumber u.2.1 g_nodeL g_nodeR u.1 g_part m_partMany g_wasMany g_wasLoss g_wasValue g_wasNumber g_path m_pathMany g_heavyValue g_heavyTimes m_heavyMany g_fewest g_which g_met m_mostMet, kx_a g_row cyI 160 u.2.2.2.2.2.2.2.2.2.2.2.2.2.2.2, kx_a g_many cyI 324 u.2.2.1, kx_a g_loss cyI 324 u.2.2.2.1, kx_a g_less cyI 324 u.2.2.2.2.1, kx_a g_voteValue cyI 1944 u.2.2.2.2.2.1, kx_a g_voteNumber cyI 1944 u.2.2.2.2.2.2.1, kx_a g_allValue cyI 12 u.2.2.2.2.2.2.2.1, kx_a g_allNumber cyI 12 u.2.2.2.2.2.2.2.2.1, kx_a g_nodeL cyI 320 u.2.2.2.2.2.2.2.2.2.1, kx_a g_nodeR cyI 320 u.2.2.2.2.2.2.2.2.2.2.1, kx_a g_wasMany cyI 320 u.2.2.2.2.2.2.2.2.2.2.2.1, kx_a g_wasLoss cyI 320 u.2.2.2.2.2.2.2.2.2.2.2.2.1, kx_a g_wasValue cyI 1920 u.2.2.2.2.2.2.2.2.2.2.2.2.2.1, kx_a g_wasNumber cyI 1920 u.2.2.2.2.2.2.2.2.2.2.2.2.2.2.1] t.heap ∧ va_K (dC, dI) vwCl [(cyI, .int)] t ∧ va_D A [kx_5 h0 g_row m_n m_slots 0 g_many g_loss g_less g_voteValue g_voteNumber g_allValue g_allNumber u.2.1 g_nodeL g_nodeR u.1 g_part m_partMany g_wasMany g_wasLoss g_wasValue g_wasNumber g_path m_pathMany g_heavyValue g_heavyTimes m_heavyMany g_fewest g_which g_met m_mostMet, kx_a g_row cyI 160 u.2.2.2.2.2.2.2.2.2.2.2.2.2.2.2, kx_a g_many cyI 324 u.2.2.1, kx_a g_loss cyI 324 u.2.2.2.1, kx_a g_less cyI 324 u.2.2.2.2.1, kx_a g_voteValue cyI 1944 u.2.2.2.2.2.1, kx_a g_voteNumber cyI 1944 u.2.2.2.2.2.2.1, kx_a g_allValue cyI 12 u.2.2.2.2.2.2.2.1, kx_a g_allNumber cyI 12 u.2.2.2.2.2.2.2.2.1, kx_a g_nodeL cyI 320 u.2.2.2.2.2.2.2.2.2.1, kx_a g_nodeR cyI 320 u.2.2.2.2.2.2.2.2.2.2.1, kx_a g_wasMany cyI 320 u.2.2.2.2.2.2.2.2.2.2.2.1, kx_a g_wasLoss cyI 320 u.2.2.2.2.2.2.2.2.2.2.2.2.1, kx_a g_wasValue cyI 1920 u.2.2.2.2.2.2.2.2.2.2.2.2.2.1, kx_a g_wasNumber cyI 1920 u.2.2.2.2.2.2.2.2.2.2.2.2.2.2.1]) A) := by
  refine kx_stQ (ws := wsX5_set) (cc := cX5_set) (maxL := 3) (ret := (some .int)) (by decide) rfl (Nat.le_of_ble_eq_true rfl) ?_
  intro p e s m below meth c A ls hx hb hr hlocks hts hown hml hA hS hP hK hD hl
  have hown : s.vm.findClass RX5 = some m.cls := hown
  have hl : lv_has ls 3 [(0, .ref h0), (1, .int p0), (2, .int p1)] := hl
  have hf_77 := hts (.fieldLink RX5 77 "MajorityIndexModel" "thrown" "I") (List.mem_of_getElem? (i := 1) rfl)
  have hi_5 : ∀ w ∈ u_ws RX5 TX5 30, w ∈ wsX5_set := fun w h => List.mem_cons_of_mem _ (List.mem_append_right _ h)
  have hf_7 := hts (.fieldLink RX5 7 "MajorityIndexModel" "row" "[I") (List.mem_of_getElem? (i := 2) rfl)
  refine lv_aload_n hx hb dX5_set_0 rfl (lv_at hl 0 rfl) ?_
  refine lv_iconst (v := 0) hx hb dX5_set_1 (by decide) ?_
  refine va_put (D := (dC, dI)) (ci := 5) (v := .int 0) (ty := .int) (C := RX5) (T := TX5) (N := 30) hx hb hts hi_5 tyX5 tyX5_ok nmX5 hown hK hP hD hS 0 rfl rfl 3 (by decide) hf_77 (fun _ h9 => h9) rfl (by decide +kernel) rfl rfl (Nat.le_of_ble_eq_true rfl) dX5_set_2 (fun H locs hP hD hS => ?_)
  obtain ⟨hP, hD⟩ := kx_re (w2 := [kx_5 h0 g_row m_n m_slots 0 g_many g_loss g_less g_voteValue g_voteNumber g_allValue g_allNumber m_allMany g_nodeL g_nodeR m_nodes g_part m_partMany g_wasMany g_wasLoss g_wasValue g_wasNumber g_path m_pathMany g_heavyValue g_heavyTimes m_heavyMany g_fewest g_which g_met m_mostMet, kx_a g_row cyI 160 f, kx_a g_many cyI 324 fm, kx_a g_loss cyI 324 fl, kx_a g_less cyI 324 fe, kx_a g_voteValue cyI 1944 vv, kx_a g_voteNumber cyI 1944 vn, kx_a g_allValue cyI 12 av, kx_a g_allNumber cyI 12 an, kx_a g_nodeL cyI 320 nl, kx_a g_nodeR cyI 320 nr, kx_a g_wasMany cyI 320 wm, kx_a g_wasLoss cyI 320 wl, kx_a g_wasValue cyI 1920 wv, kx_a g_wasNumber cyI 1920 wn]) hP hD rfl
  refine lv_aload_n hx hb dX5_set_5 rfl (lv_at hl 0 rfl) ?_
  refine lv_iload_n hx hb dX5_set_6 rfl (lv_at hl 1 rfl) ?_
  have hPc := hP.sub (ws' := [kx_5 h0 g_row m_n m_slots 0 g_many g_loss g_less g_voteValue g_voteNumber g_allValue g_allNumber m_allMany g_nodeL g_nodeR m_nodes g_part m_partMany g_wasMany g_wasLoss g_wasValue g_wasNumber g_path m_pathMany g_heavyValue g_heavyTimes m_heavyMany g_fewest g_which g_met m_mostMet]) [0] rfl
  have hKc := hK.sub (tys' := []) [] rfl
  refine vp_callSi (W.runV (As := [.int p0]) (rest := []) ⟨hx, hb, hml, hown, hts⟩ (c_X5_isPlace l dC dI h0 g_row g_many g_loss g_less g_voteValue g_voteNumber g_allValue g_allNumber g_nodeL g_nodeR g_part g_wasMany g_wasLoss g_wasValue g_wasNumber g_path g_heavyValue g_heavyTimes g_fewest g_which g_met m_n m_slots 0 m_allMany m_nodes m_partMany m_pathMany m_heavyMany m_mostMet p0 a0 a1) (cwV 1 hts gX5_set_X5_isPlace rfl rfl rfl (by decide +kernel) ⟨Nat.le_of_ble_eq_true rfl, Nat.le_of_ble_eq_true rfl⟩) ⟨fun a U g mk q => by obtain ⟨q0, qP, qK⟩ := q; exact ⟨q0, qP, va_K.moved (u := U) (U := U.calling g mk a) (Vm.Alike.refl U.vm) qK⟩, kx_rc5 hKc hPc (q0 := 0) rfl, fun U hU hW => ⟨rfl, by rw [hU]; exact hPc, va_K.moved hW.alike hKc⟩⟩ rfl rfl hl.1 rfl (lv_room (Nat.le_of_ble_eq_true rfl)) dX5_set_7 ⟨Nat.le_of_ble_eq_true rfl, Nat.le_of_ble_eq_true rfl⟩) (fun r_1 w_1 => ?_)
  rcases w_1 with ⟨rfl, w_1⟩ | ⟨rfl, w_1⟩
  · have w_1 : (0 ≤ p0.toInt ∧ p0.toInt < m_n.toInt) := w_1
    refine lv_if_eq (tgt := 20) hx hb dX5_set_10 (by decide) (fun c_2 => ?_) (fun c_2 => ?_)
    · exact absurd c_2 (by decide)
    · refine lv_iload_n hx hb dX5_set_13 rfl (lv_at hl 2 rfl) ?_
      have hPc := hP.sub (ws' := []) [] rfl
      have hKc := hK.sub (tys' := []) [] rfl
      refine vp_callSi (W.runS (As := [.int p1]) (rest := []) ⟨hx, hb, hml, hown, hts⟩ (c_X5_isValue l dC dI p1) (va_cwS 1 hts gX5_set_X5_isValue rfl rfl rfl (by decide +kernel) ⟨Nat.le_of_ble_eq_true rfl, Nat.le_of_ble_eq_true rfl⟩) ⟨fun a U g mk q => by obtain ⟨q0, qP, qK⟩ := q; exact ⟨q0, qP, va_K.moved (u := U) (U := U.calling g mk a) (Vm.Alike.refl U.vm) qK⟩, fun U hU hW => ⟨rfl, by rw [hU]; exact hPc, va_K.moved hW.alike hKc⟩⟩ rfl rfl hl.1 rfl (lv_room (Nat.le_of_ble_eq_true rfl)) dX5_set_14 ⟨Nat.le_of_ble_eq_true rfl, Nat.le_of_ble_eq_true rfl⟩) (fun r_3 w_3 => ?_)
      rcases w_3 with ⟨rfl, w_3⟩ | ⟨rfl, w_3⟩
      · have w_3 : (-32768 ≤ p1.toInt ∧ p1.toInt ≤ 32767) := w_3
        refine lv_if_ne (tgt := 22) hx hb dX5_set_17 (by decide) (fun c_4 => ?_) (fun c_4 => ?_)
        · refine lv_aload_n hx hb dX5_set_22 rfl (lv_at hl 0 rfl) ?_
          have hPc := hP
          have hKc := hK
          have hDc := hD
          have hFc := kx_free hD hS hA
          refine va_callv (va_runV (As := []) (rest := []) ⟨hx, hb, hml, hown, hts⟩ (kx_un (c_X5_keeps l dC dI h0 g_row g_many g_loss g_less g_voteValue g_voteNumber g_allValue g_allNumber g_nodeL g_nodeR g_part g_wasMany g_wasLoss g_wasValue g_wasNumber g_path g_heavyValue g_heavyTimes g_fewest g_which g_met m_n m_slots 0 m_allMany m_nodes m_partMany m_pathMany m_heavyMany m_mostMet cyI fm fl fe vv vn f av an nl nr wm wl wv wn H.size a0 a1 sl0 sl1 s4)) (cwV 0 hts gX5_set_X5_keeps rfl rfl rfl (by decide +kernel) ⟨Nat.le_of_ble_eq_true rfl, Nat.le_of_ble_eq_true rfl⟩) ⟨fun a U g mk q => by obtain ⟨q0, q1, qP, qK, qD⟩ := q; exact ⟨q0, q1, qP, va_K.moved (u := U) (U := U.calling g mk a) (Vm.Alike.refl U.vm) qK, qD⟩, kx_rc5 hKc hPc (q0 := 0) rfl, fun U hU hW => ⟨rfl, by rw [hU], by rw [hU]; exact hPc, va_K.moved hW.alike hKc, hDc.weaken (fun _ _ _ _ => trivial)⟩⟩ rfl rfl hl.1 rfl (lv_room (Nat.le_of_ble_eq_true rfl)) dX5_set_23 ⟨Nat.le_of_ble_eq_true rfl, Nat.le_of_ble_eq_true rfl⟩) hS (fun q _ h => hFc q h) hFc (fun u t H1 locs ht hvm w_5 hB hz1 hk1 hS => ?_)
          obtain ⟨o_6, o_7, o_8, o_9, o_10, o_11, o_12, o_13, o_14, o_15, o_16, o_17, o_18, o_19, o_20⟩ := u
          dsimp only at w_5 hB
          obtain ⟨hP1, hK1, hD1⟩ := hB
          rw [ht] at hP1
          have hK1 := va_K.moved hvm.symm hK1
          have hD := hD1.weaken (fun _ q _ h => hFc q.1 h)
          have hP := hP1
          clear hP1 hD1 hK1 hk1 hz1 hFc hDc hPc hKc
          generalize H1 = H at hP hS ⊢
          have w_5 : six4 o_8 := w_5
          refine lv_aload_n hx hb dX5_set_26 rfl (lv_at hl 0 rfl) ?_
          refine va_get (D := (dC, dI)) (ci := 5) (v := .ref g_row) (C := RX5) (T := TX5) (N := 30) hx hb hts hi_5 hown hK hP 0 rfl rfl 0 (by decide) hf_7 (fun _ h9 => h9) rfl dX5_set_27 ?_
          refine lv_iload_n hx hb dX5_set_30 rfl (lv_at hl 1 rfl) ?_
          refine lv_iload_n hx hb dX5_set_31 rfl (lv_at hl 2 rfl) ?_
          refine va_iast hx hb hK hP hD hS 1 0 rfl rfl (ki_in (om_10 w_1.1) (om_1 a1 w_1.2)) dX5_set_32 (fun H locs hP hD hS => ?_)
          obtain ⟨hP, hD⟩ := kx_re (w2 := [kx_5 h0 g_row m_n m_slots 0 g_many g_loss g_less g_voteValue g_voteNumber g_allValue g_allNumber o_7 g_nodeL g_nodeR o_6 g_part m_partMany g_wasMany g_wasLoss g_wasValue g_wasNumber g_path m_pathMany g_heavyValue g_heavyTimes m_heavyMany g_fewest g_which g_met m_mostMet, kx_a g_row cyI 160 (upd f p0.toNatClampNeg p1), kx_a g_many cyI 324 o_8, kx_a g_loss cyI 324 o_9, kx_a g_less cyI 324 o_10, kx_a g_voteValue cyI 1944 o_11, kx_a g_voteNumber cyI 1944 o_12, kx_a g_allValue cyI 12 o_13, kx_a g_allNumber cyI 12 o_14, kx_a g_nodeL cyI 320 o_15, kx_a g_nodeR cyI 320 o_16, kx_a g_wasMany cyI 320 o_17, kx_a g_wasLoss cyI 320 o_18, kx_a g_wasValue cyI 1920 o_19, kx_a g_wasNumber cyI 1920 o_20]) hP hD rfl
          refine lv_aload_n hx hb dX5_set_33 rfl (lv_at hl 0 rfl) ?_
          have hPc := hP
          have hKc := hK
          have hDc := hD
          have hFc := kx_free hD hS hA
          refine va_calli (va_runV (As := []) (rest := []) ⟨hx, hb, hml, hown, hts⟩ (kx_un (c_X5_others l dC dI h0 g_row g_many g_loss g_less g_voteValue g_voteNumber g_allValue g_allNumber g_nodeL g_nodeR g_part g_wasMany g_wasLoss g_wasValue g_wasNumber g_path g_heavyValue g_heavyTimes g_fewest g_which g_met m_n m_slots 0 o_7 o_6 m_partMany m_pathMany m_heavyMany m_mostMet cyI o_8 o_9 o_10 o_11 o_12 (upd f p0.toNatClampNeg p1) o_13 o_14 o_15 o_16 o_17 o_18 o_19 o_20 H.size a0 a1 sl0 sl1 w_5)) (cwV 0 hts gX5_set_X5_others rfl rfl rfl (by decide +kernel) ⟨Nat.le_of_ble_eq_true rfl, Nat.le_of_ble_eq_true rfl⟩) ⟨fun a U g mk q => by obtain ⟨q0, q1, qP, qK, qD⟩ := q; exact ⟨q0, q1, qP, va_K.moved (u := U) (U := U.calling g mk a) (Vm.Alike.refl U.vm) qK, qD⟩, kx_rc5 hKc hPc (q0 := 0) rfl, fun U hU hW => ⟨rfl, by rw [hU], by rw [hU]; exact hPc, va_K.moved hW.alike hKc, hDc.weaken (fun _ _ _ _ => trivial)⟩⟩ rfl rfl hl.1 rfl (lv_room (Nat.le_of_ble_eq_true rfl)) dX5_set_34 ⟨Nat.le_of_ble_eq_true rfl, Nat.le_of_ble_eq_true rfl⟩) hS (fun q _ h => hFc q h) hFc (fun r_21 u t H1 locs ht hvm w_21 hB hz1 hk1 hS => ?_)
          obtain ⟨o_22, o_23, o_24, o_25, o_26, o_27, o_28, o_29, o_30, o_31, o_32⟩ := u
          dsimp only at w_21 hB
          obtain ⟨hP1, hK1, hD1⟩ := hB
          rw [ht] at hP1
          have hK1 := va_K.moved hvm.symm hK1
          have hD := hD1.weaken (fun _ q _ h => hFc q.1 h)
          have hP := hP1
          clear hP1 hD1 hK1 hk1 hz1 hFc hDc hPc hKc
          generalize H1 = H at hP hS ⊢
          have w_21 : six4 o_24 := w_21
          have hP9 := hP
          have hD9 := hD
          have hK9 := hK
          exact W.iret (v := r_21) hx hb hr (hlocks := hlocks) (fun t ht hW => ⟨⟨r_21, (o_22, o_23, o_24, o_25, o_26, o_27, o_28, o_29, o_30, o_31, o_32, o_17, o_18, o_19, o_20, (upd f p0.toNatClampNeg p1)), rfl, ⟨Or.inl ⟨by omega, rfl⟩, (shorts_upd s1 (by (try dsimp only); omega) (by (try dsimp only); omega)), w_21⟩, by rw [ht]; exact hP9, va_K.moved hW.alike hK9, hD9⟩, hS.F ht⟩) hS.2.2 dX5_set_37
        · exact absurd c_4 (by decide)
      · have w_3 : (p1.toInt < -32768 ∨ 32767 < p1.toInt) := w_3
        refine lv_if_ne (tgt := 22) hx hb dX5_set_17 (by decide) (fun c_33 => ?_) (fun c_33 => ?_)
        · exact absurd c_33 (by decide)
        · refine lv_iconst (v := (-1)) hx hb dX5_set_20 (by decide) ?_
          have hP9 := hP
          have hD9 := hD
          have hK9 := hK
          exact W.iret (v := (-1)) hx hb hr (hlocks := hlocks) (fun t ht hW => ⟨⟨(-1), (m_nodes, m_allMany, fm, fl, fe, vv, vn, av, an, nl, nr, wm, wl, wv, wn, f), rfl, ⟨Or.inr ⟨by omega, rfl, rfl⟩, s1, s4⟩, by rw [ht]; exact hP9, va_K.moved hW.alike hK9, hD9⟩, hS.F ht⟩) hS.2.2 dX5_set_21
  · have w_1 : (p0.toInt < 0 ∨ m_n.toInt ≤ p0.toInt) := w_1
    refine lv_if_eq (tgt := 20) hx hb dX5_set_10 (by decide) (fun c_34 => ?_) (fun c_34 => ?_)
    · refine lv_iconst (v := (-1)) hx hb dX5_set_20 (by decide) ?_
      have hP9 := hP
      have hD9 := hD
      have hK9 := hK
      exact W.iret (v := (-1)) hx hb hr (hlocks := hlocks) (fun t ht hW => ⟨⟨(-1), (m_nodes, m_allMany, fm, fl, fe, vv, vn, av, an, nl, nr, wm, wl, wv, wn, f), rfl, ⟨Or.inr ⟨by omega, rfl, rfl⟩, s1, s4⟩, by rw [ht]; exact hP9, va_K.moved hW.alike hK9, hD9⟩, hS.F ht⟩) hS.2.2 dX5_set_21
    · exact absurd c_34 (by decide)

set_option maxHeartbeats 4000000 in
set_option maxRecDepth 100000 in
theorem c_X5_fill (l : Launch) (dC : Nat → ClassId) (dI : Nat → Nat → Nat) (h0 : Nat) (g_row : Nat) (g_many : Nat) (g_loss : Nat) (g_less : Nat) (g_voteValue : Nat) (g_voteNumber : Nat) (g_allValue : Nat) (g_allNumber : Nat) (g_nodeL : Nat) (g_nodeR : Nat) (g_part : Nat) (g_wasMany : Nat) (g_wasLoss : Nat) (g_wasValue : Nat) (g_wasNumber : Nat) (g_path : Nat) (g_heavyValue : Nat) (g_heavyTimes : Nat) (g_fewest : Nat) (g_which : Nat) (g_met : Nat) (m_n : Int32) (m_slots : Int32) (m_thrown : Int32) (m_allMany : Int32) (m_nodes : Int32) (m_partMany : Int32) (m_pathMany : Int32) (m_heavyMany : Int32) (m_mostMet : Int32) (cyI : ClassId) (fm : Nat → Int32) (fl : Nat → Int32) (fe : Nat → Int32) (vv : Nat → Int32) (vn : Nat → Int32) (f : Nat → Int32) (av : Nat → Int32) (an : Nat → Int32) (nl : Nat → Int32) (nr : Nat → Int32) (wm : Nat → Int32) (wl : Nat → Int32) (wv : Nat → Int32) (wn : Nat → Int32) (p0 : Int32) (p1 : Int32) (p2 : Int32) (sz : Nat) (a0 : 0 ≤ m_n.toInt) (a1 : m_n.toInt ≤ 160) (sl0 : 1 ≤ m_slots.toInt) (sl1 : m_slots.toInt ≤ 6) (s4 : six4 fm) (s1 : shorts f) : kx_MQ l (dC, dI) yX5_fill wsX5_fill ({ frames := 13, cells := 0, slots := 0, locals := 585 }) [.ref h0, .int p0, .int p1, .int p2] [kx_5 h0 g_row m_n m_slots m_thrown g_many g_loss g_less g_voteValue g_voteNumber g_allValue g_allNumber m_allMany g_nodeL g_nodeR m_nodes g_part m_partMany g_wasMany g_wasLoss g_wasValue g_wasNumber g_path m_pathMany g_heavyValue g_heavyTimes m_heavyMany g_fewest g_which g_met m_mostMet, kx_a g_row cyI 160 f, kx_a g_many cyI 324 fm, kx_a g_loss cyI 324 fl, kx_a g_less cyI 324 fe, kx_a g_voteValue cyI 1944 vv, kx_a g_voteNumber cyI 1944 vn, kx_a g_allValue cyI 12 av, kx_a g_allNumber cyI 12 an, kx_a g_nodeL cyI 320 nl, kx_a g_nodeR cyI 320 nr, kx_a g_wasMany cyI 320 wm, kx_a g_wasLoss cyI 320 wl, kx_a g_wasValue cyI 1920 wv, kx_a g_wasNumber cyI 1920 wn] [(cyI, .int)] sz (fun A => va_Qi (fun (r : Int32) (u : Int32 × Int32 × (Nat → Int32) × (Nat → Int32) × (Nat → Int32) × (Nat → Int32) × (Nat → Int32) × (Nat → Int32) × (Nat → Int32) × (Nat → Int32) × (Nat → Int32) × (Nat → Int32) × (Nat → Int32) × (Nat → Int32) × (Nat → Int32) × (Nat → Int32)) => (((0 ≤ p0.toInt ∧ p0.toInt < p1.toInt ∧ p1.toInt ≤ m_n.toInt ∧ -32768 ≤ p2.toInt ∧ p2.toInt ≤ 32767) ∧ u.2.2.2.2.2.2.2.2.2.2.2.2.2.2.2 = mj_fill f p0.toNatClampNeg p1.toNatClampNeg p2) ∨ ((p0.toInt < 0 ∨ p1.toInt ≤ p0.toInt ∨ m_n.toInt < p1.toInt ∨ p2.toInt < -32768 ∨ 32767 < p2.toInt) ∧ u.2.2.2.2.2.2.2.2.2.2.2.2.2.2.2 = f ∧ r = -1)) ∧ shorts u.2.2.2.2.2.2.2.2.2.2.2.2.2.2.2 ∧ six4 u.2.2.1) (fun (u : Int32 × Int32 × (Nat → Int32) × (Nat → Int32) × (Nat → Int32) × (Nat → Int32) × (Nat → Int32) × (Nat → Int32) × (Nat → Int32) × (Nat → Int32) × (Nat → Int32) × (Nat → Int32) × (Nat → Int32) × (Nat → Int32) × (Nat → Int32) × (Nat → Int32)) (t : State) => va_P (dC, dI) vwCl [kx_5 h0 g_row m_n m_slots 0 g_many g_loss g_less g_voteValue g_voteNumber g_allValue g_allNumber u.2.1 g_nodeL g_nodeR u.1 g_part m_partMany g_wasMany g_wasLoss g_wasValue g_wasNumber g_path m_pathMany g_heavyValue g_heavyTimes m_heavyMany g_fewest g_which g_met m_mostMet, kx_a g_row cyI 160 u.2.2.2.2.2.2.2.2.2.2.2.2.2.2.2, kx_a g_many cyI 324 u.2.2.1, kx_a g_loss cyI 324 u.2.2.2.1, kx_a g_less cyI 324 u.2.2.2.2.1, kx_a g_voteValue cyI 1944 u.2.2.2.2.2.1, kx_a g_voteNumber cyI 1944 u.2.2.2.2.2.2.1, kx_a g_allValue cyI 12 u.2.2.2.2.2.2.2.1, kx_a g_allNumber cyI 12 u.2.2.2.2.2.2.2.2.1, kx_a g_nodeL cyI 320 u.2.2.2.2.2.2.2.2.2.1, kx_a g_nodeR cyI 320 u.2.2.2.2.2.2.2.2.2.2.1, kx_a g_wasMany cyI 320 u.2.2.2.2.2.2.2.2.2.2.2.1, kx_a g_wasLoss cyI 320 u.2.2.2.2.2.2.2.2.2.2.2.2.1, kx_a g_wasValue cyI 1920 u.2.2.2.2.2.2.2.2.2.2.2.2.2.1, kx_a g_wasNumber cyI 1920 u.2.2.2.2.2.2.2.2.2.2.2.2.2.2.1] t.heap ∧ va_K (dC, dI) vwCl [(cyI, .int)] t ∧ va_D A [kx_5 h0 g_row m_n m_slots 0 g_many g_loss g_less g_voteValue g_voteNumber g_allValue g_allNumber u.2.1 g_nodeL g_nodeR u.1 g_part m_partMany g_wasMany g_wasLoss g_wasValue g_wasNumber g_path m_pathMany g_heavyValue g_heavyTimes m_heavyMany g_fewest g_which g_met m_mostMet, kx_a g_row cyI 160 u.2.2.2.2.2.2.2.2.2.2.2.2.2.2.2, kx_a g_many cyI 324 u.2.2.1, kx_a g_loss cyI 324 u.2.2.2.1, kx_a g_less cyI 324 u.2.2.2.2.1, kx_a g_voteValue cyI 1944 u.2.2.2.2.2.1, kx_a g_voteNumber cyI 1944 u.2.2.2.2.2.2.1, kx_a g_allValue cyI 12 u.2.2.2.2.2.2.2.1, kx_a g_allNumber cyI 12 u.2.2.2.2.2.2.2.2.1, kx_a g_nodeL cyI 320 u.2.2.2.2.2.2.2.2.2.1, kx_a g_nodeR cyI 320 u.2.2.2.2.2.2.2.2.2.2.1, kx_a g_wasMany cyI 320 u.2.2.2.2.2.2.2.2.2.2.2.1, kx_a g_wasLoss cyI 320 u.2.2.2.2.2.2.2.2.2.2.2.2.1, kx_a g_wasValue cyI 1920 u.2.2.2.2.2.2.2.2.2.2.2.2.2.1, kx_a g_wasNumber cyI 1920 u.2.2.2.2.2.2.2.2.2.2.2.2.2.2.1]) A) := by
  refine kx_stQ (ws := wsX5_fill) (cc := cX5_fill) (maxL := 5) (ret := (some .int)) (by decide) rfl (Nat.le_of_ble_eq_true rfl) ?_
  intro p e s m below meth c A ls hx hb hr hlocks hts hown hml hA hS hP hK hD hl
  have hown : s.vm.findClass RX5 = some m.cls := hown
  have hl : lv_has ls 5 [(0, .ref h0), (1, .int p0), (2, .int p1), (3, .int p2)] := hl
  have hf_77 := hts (.fieldLink RX5 77 "MajorityIndexModel" "thrown" "I") (List.mem_of_getElem? (i := 1) rfl)
  have hi_5 : ∀ w ∈ u_ws RX5 TX5 30, w ∈ wsX5_fill := fun w h => List.mem_cons_of_mem _ (List.mem_append_right _ h)
  have hf_7 := hts (.fieldLink RX5 7 "MajorityIndexModel" "row" "[I") (List.mem_of_getElem? (i := 2) rfl)
  refine lv_aload_n hx hb dX5_fill_0 rfl (lv_at hl 0 rfl) ?_
  refine lv_iconst (v := 0) hx hb dX5_fill_1 (by decide) ?_
  refine va_put (D := (dC, dI)) (ci := 5) (v := .int 0) (ty := .int) (C := RX5) (T := TX5) (N := 30) hx hb hts hi_5 tyX5 tyX5_ok nmX5 hown hK hP hD hS 0 rfl rfl 3 (by decide) hf_77 (fun _ h9 => h9) rfl (by decide +kernel) rfl rfl (Nat.le_of_ble_eq_true rfl) dX5_fill_2 (fun H locs hP hD hS => ?_)
  obtain ⟨hP, hD⟩ := kx_re (w2 := [kx_5 h0 g_row m_n m_slots 0 g_many g_loss g_less g_voteValue g_voteNumber g_allValue g_allNumber m_allMany g_nodeL g_nodeR m_nodes g_part m_partMany g_wasMany g_wasLoss g_wasValue g_wasNumber g_path m_pathMany g_heavyValue g_heavyTimes m_heavyMany g_fewest g_which g_met m_mostMet, kx_a g_row cyI 160 f, kx_a g_many cyI 324 fm, kx_a g_loss cyI 324 fl, kx_a g_less cyI 324 fe, kx_a g_voteValue cyI 1944 vv, kx_a g_voteNumber cyI 1944 vn, kx_a g_allValue cyI 12 av, kx_a g_allNumber cyI 12 an, kx_a g_nodeL cyI 320 nl, kx_a g_nodeR cyI 320 nr, kx_a g_wasMany cyI 320 wm, kx_a g_wasLoss cyI 320 wl, kx_a g_wasValue cyI 1920 wv, kx_a g_wasNumber cyI 1920 wn]) hP hD rfl
  refine lv_aload_n hx hb dX5_fill_5 rfl (lv_at hl 0 rfl) ?_
  refine lv_iload_n hx hb dX5_fill_6 rfl (lv_at hl 1 rfl) ?_
  refine lv_iload_n hx hb dX5_fill_7 rfl (lv_at hl 2 rfl) ?_
  have hPc := hP.sub (ws' := [kx_5 h0 g_row m_n m_slots 0 g_many g_loss g_less g_voteValue g_voteNumber g_allValue g_allNumber m_allMany g_nodeL g_nodeR m_nodes g_part m_partMany g_wasMany g_wasLoss g_wasValue g_wasNumber g_path m_pathMany g_heavyValue g_heavyTimes m_heavyMany g_fewest g_which g_met m_mostMet]) [0] rfl
  have hKc := hK.sub (tys' := []) [] rfl
  refine vp_callSi (W.runV (As := [.int p0, .int p1]) (rest := []) ⟨hx, hb, hml, hown, hts⟩ (c_X5_isRange l dC dI h0 g_row g_many g_loss g_less g_voteValue g_voteNumber g_allValue g_allNumber g_nodeL g_nodeR g_part g_wasMany g_wasLoss g_wasValue g_wasNumber g_path g_heavyValue g_heavyTimes g_fewest g_which g_met m_n m_slots 0 m_allMany m_nodes m_partMany m_pathMany m_heavyMany m_mostMet p0 p1) (cwV 2 hts gX5_fill_X5_isRange rfl rfl rfl (by decide +kernel) ⟨Nat.le_of_ble_eq_true rfl, Nat.le_of_ble_eq_true rfl⟩) ⟨fun a U g mk q => by obtain ⟨q0, qP, qK⟩ := q; exact ⟨q0, qP, va_K.moved (u := U) (U := U.calling g mk a) (Vm.Alike.refl U.vm) qK⟩, kx_rc5 hKc hPc (q0 := 0) rfl, fun U hU hW => ⟨rfl, by rw [hU]; exact hPc, va_K.moved hW.alike hKc⟩⟩ rfl rfl hl.1 rfl (lv_room (Nat.le_of_ble_eq_true rfl)) dX5_fill_8 ⟨Nat.le_of_ble_eq_true rfl, Nat.le_of_ble_eq_true rfl⟩) (fun r_1 w_1 => ?_)
  rcases w_1 with ⟨rfl, w_1⟩ | ⟨rfl, w_1⟩
  · have w_1 : (0 ≤ p0.toInt ∧ p0.toInt < p1.toInt ∧ p1.toInt ≤ m_n.toInt) := w_1
    refine lv_if_eq (tgt := 21) hx hb dX5_fill_11 (by decide) (fun c_2 => ?_) (fun c_2 => ?_)
    · exact absurd c_2 (by decide)
    · refine lv_iload_n hx hb dX5_fill_14 rfl (lv_at hl 3 rfl) ?_
      have hPc := hP.sub (ws' := []) [] rfl
      have hKc := hK.sub (tys' := []) [] rfl
      refine vp_callSi (W.runS (As := [.int p2]) (rest := []) ⟨hx, hb, hml, hown, hts⟩ (c_X5_isValue l dC dI p2) (va_cwS 1 hts gX5_fill_X5_isValue rfl rfl rfl (by decide +kernel) ⟨Nat.le_of_ble_eq_true rfl, Nat.le_of_ble_eq_true rfl⟩) ⟨fun a U g mk q => by obtain ⟨q0, qP, qK⟩ := q; exact ⟨q0, qP, va_K.moved (u := U) (U := U.calling g mk a) (Vm.Alike.refl U.vm) qK⟩, fun U hU hW => ⟨rfl, by rw [hU]; exact hPc, va_K.moved hW.alike hKc⟩⟩ rfl rfl hl.1 rfl (lv_room (Nat.le_of_ble_eq_true rfl)) dX5_fill_15 ⟨Nat.le_of_ble_eq_true rfl, Nat.le_of_ble_eq_true rfl⟩) (fun r_3 w_3 => ?_)
      rcases w_3 with ⟨rfl, w_3⟩ | ⟨rfl, w_3⟩
      · have w_3 : (-32768 ≤ p2.toInt ∧ p2.toInt ≤ 32767) := w_3
        refine lv_if_ne (tgt := 23) hx hb dX5_fill_18 (by decide) (fun c_4 => ?_) (fun c_4 => ?_)
        · refine lv_aload_n hx hb dX5_fill_23 rfl (lv_at hl 0 rfl) ?_
          have hPc := hP
          have hKc := hK
          have hDc := hD
          have hFc := kx_free hD hS hA
          refine va_callv (va_runV (As := []) (rest := []) ⟨hx, hb, hml, hown, hts⟩ (kx_un (c_X5_keeps l dC dI h0 g_row g_many g_loss g_less g_voteValue g_voteNumber g_allValue g_allNumber g_nodeL g_nodeR g_part g_wasMany g_wasLoss g_wasValue g_wasNumber g_path g_heavyValue g_heavyTimes g_fewest g_which g_met m_n m_slots 0 m_allMany m_nodes m_partMany m_pathMany m_heavyMany m_mostMet cyI fm fl fe vv vn f av an nl nr wm wl wv wn H.size a0 a1 sl0 sl1 s4)) (cwV 0 hts gX5_fill_X5_keeps rfl rfl rfl (by decide +kernel) ⟨Nat.le_of_ble_eq_true rfl, Nat.le_of_ble_eq_true rfl⟩) ⟨fun a U g mk q => by obtain ⟨q0, q1, qP, qK, qD⟩ := q; exact ⟨q0, q1, qP, va_K.moved (u := U) (U := U.calling g mk a) (Vm.Alike.refl U.vm) qK, qD⟩, kx_rc5 hKc hPc (q0 := 0) rfl, fun U hU hW => ⟨rfl, by rw [hU], by rw [hU]; exact hPc, va_K.moved hW.alike hKc, hDc.weaken (fun _ _ _ _ => trivial)⟩⟩ rfl rfl hl.1 rfl (lv_room (Nat.le_of_ble_eq_true rfl)) dX5_fill_24 ⟨Nat.le_of_ble_eq_true rfl, Nat.le_of_ble_eq_true rfl⟩) hS (fun q _ h => hFc q h) hFc (fun u t H1 locs ht hvm w_5 hB hz1 hk1 hS => ?_)
          obtain ⟨o_6, o_7, o_8, o_9, o_10, o_11, o_12, o_13, o_14, o_15, o_16, o_17, o_18, o_19, o_20⟩ := u
          dsimp only at w_5 hB
          obtain ⟨hP1, hK1, hD1⟩ := hB
          rw [ht] at hP1
          have hK1 := va_K.moved hvm.symm hK1
          have hD := hD1.weaken (fun _ q _ h => hFc q.1 h)
          have hP := hP1
          clear hP1 hD1 hK1 hk1 hz1 hFc hDc hPc hKc
          generalize H1 = H at hP hS ⊢
          have w_5 : six4 o_8 := w_5
          refine lv_iload_n hx hb dX5_fill_27 rfl (lv_at hl 1 rfl) ?_
          refine lv_istore (lv' := [(4, .int p0), (0, .ref h0), (1, .int p0), (2, .int p1), (3, .int p2)]) hx hb dX5_fill_28 hl (by decide) rfl (fun ls hl => ?_)
          have LP1 : ∀ (n : Nat) (k : Int32) (gc : Nat → Int32), (p0.toInt ≤ k.toInt) → (k.toInt ≤ p1.toInt) → (gc = mj_fill f p0.toNatClampNeg k.toNatClampNeg p2) → (p1.toInt - k.toInt).toNat < n → ∀ (H : Heap) (locs : List Loc), va_P (dC, dI) vwCl [kx_5 h0 g_row m_n m_slots 0 g_many g_loss g_less g_voteValue g_voteNumber g_allValue g_allNumber o_7 g_nodeL g_nodeR o_6 g_part m_partMany g_wasMany g_wasLoss g_wasValue g_wasNumber g_path m_pathMany g_heavyValue g_heavyTimes m_heavyMany g_fewest g_which g_met m_mostMet, kx_a g_row cyI 160 gc, kx_a g_many cyI 324 o_8, kx_a g_loss cyI 324 o_9, kx_a g_less cyI 324 o_10, kx_a g_voteValue cyI 1944 o_11, kx_a g_voteNumber cyI 1944 o_12, kx_a g_allValue cyI 12 o_13, kx_a g_allNumber cyI 12 o_14, kx_a g_nodeL cyI 320 o_15, kx_a g_nodeR cyI 320 o_16, kx_a g_wasMany cyI 320 o_17, kx_a g_wasLoss cyI 320 o_18, kx_a g_wasValue cyI 1920 o_19, kx_a g_wasNumber cyI 1920 o_20] H → va_D A [kx_5 h0 g_row m_n m_slots 0 g_many g_loss g_less g_voteValue g_voteNumber g_allValue g_allNumber o_7 g_nodeL g_nodeR o_6 g_part m_partMany g_wasMany g_wasLoss g_wasValue g_wasNumber g_path m_pathMany g_heavyValue g_heavyTimes m_heavyMany g_fewest g_which g_met m_mostMet, kx_a g_row cyI 160 gc, kx_a g_many cyI 324 o_8, kx_a g_loss cyI 324 o_9, kx_a g_less cyI 324 o_10, kx_a g_voteValue cyI 1944 o_11, kx_a g_voteNumber cyI 1944 o_12, kx_a g_allValue cyI 12 o_13, kx_a g_allNumber cyI 12 o_14, kx_a g_nodeL cyI 320 o_15, kx_a g_nodeR cyI 320 o_16, kx_a g_wasMany cyI 320 o_17, kx_a g_wasLoss cyI 320 o_18, kx_a g_wasValue cyI 1920 o_19, kx_a g_wasNumber cyI 1920 o_20] → va_S A s.heap H locs → ∀ (ls : Array Slot), lv_has ls 5 [(4, .int k), (0, .ref h0), (1, .int p0), (2, .int p1), (3, .int p2)] → W p l e (headSpec wsX5_fill ({ frames := 13, cells := 0, slots := 0, locals := 585 })).room s m ([.ref h0, .int p0, .int p1, .int p2] : List Value).toArray below meth c H locs 0 0 (MQ below (va_Qi (fun (r : Int32) (u : Int32 × Int32 × (Nat → Int32) × (Nat → Int32) × (Nat → Int32) × (Nat → Int32) × (Nat → Int32) × (Nat → Int32) × (Nat → Int32) × (Nat → Int32) × (Nat → Int32) × (Nat → Int32) × (Nat → Int32) × (Nat → Int32) × (Nat → Int32) × (Nat → Int32)) => (((0 ≤ p0.toInt ∧ p0.toInt < p1.toInt ∧ p1.toInt ≤ m_n.toInt ∧ -32768 ≤ p2.toInt ∧ p2.toInt ≤ 32767) ∧ u.2.2.2.2.2.2.2.2.2.2.2.2.2.2.2 = mj_fill f p0.toNatClampNeg p1.toNatClampNeg p2) ∨ ((p0.toInt < 0 ∨ p1.toInt ≤ p0.toInt ∨ m_n.toInt < p1.toInt ∨ p2.toInt < -32768 ∨ 32767 < p2.toInt) ∧ u.2.2.2.2.2.2.2.2.2.2.2.2.2.2.2 = f ∧ r = -1)) ∧ shorts u.2.2.2.2.2.2.2.2.2.2.2.2.2.2.2 ∧ six4 u.2.2.1) (fun (u : Int32 × Int32 × (Nat → Int32) × (Nat → Int32) × (Nat → Int32) × (Nat → Int32) × (Nat → Int32) × (Nat → Int32) × (Nat → Int32) × (Nat → Int32) × (Nat → Int32) × (Nat → Int32) × (Nat → Int32) × (Nat → Int32) × (Nat → Int32) × (Nat → Int32)) (t : State) => va_P (dC, dI) vwCl [kx_5 h0 g_row m_n m_slots 0 g_many g_loss g_less g_voteValue g_voteNumber g_allValue g_allNumber u.2.1 g_nodeL g_nodeR u.1 g_part m_partMany g_wasMany g_wasLoss g_wasValue g_wasNumber g_path m_pathMany g_heavyValue g_heavyTimes m_heavyMany g_fewest g_which g_met m_mostMet, kx_a g_row cyI 160 u.2.2.2.2.2.2.2.2.2.2.2.2.2.2.2, kx_a g_many cyI 324 u.2.2.1, kx_a g_loss cyI 324 u.2.2.2.1, kx_a g_less cyI 324 u.2.2.2.2.1, kx_a g_voteValue cyI 1944 u.2.2.2.2.2.1, kx_a g_voteNumber cyI 1944 u.2.2.2.2.2.2.1, kx_a g_allValue cyI 12 u.2.2.2.2.2.2.2.1, kx_a g_allNumber cyI 12 u.2.2.2.2.2.2.2.2.1, kx_a g_nodeL cyI 320 u.2.2.2.2.2.2.2.2.2.1, kx_a g_nodeR cyI 320 u.2.2.2.2.2.2.2.2.2.2.1, kx_a g_wasMany cyI 320 u.2.2.2.2.2.2.2.2.2.2.2.1, kx_a g_wasLoss cyI 320 u.2.2.2.2.2.2.2.2.2.2.2.2.1, kx_a g_wasValue cyI 1920 u.2.2.2.2.2.2.2.2.2.2.2.2.2.1, kx_a g_wasNumber cyI 1920 u.2.2.2.2.2.2.2.2.2.2.2.2.2.2.1] t.heap ∧ va_K (dC, dI) vwCl [(cyI, .int)] t ∧ va_D A [kx_5 h0 g_row m_n m_slots 0 g_many g_loss g_less g_voteValue g_voteNumber g_allValue g_allNumber u.2.1 g_nodeL g_nodeR u.1 g_part m_partMany g_wasMany g_wasLoss g_wasValue g_wasNumber g_path m_pathMany g_heavyValue g_heavyTimes m_heavyMany g_fewest g_which g_met m_mostMet, kx_a g_row cyI 160 u.2.2.2.2.2.2.2.2.2.2.2.2.2.2.2, kx_a g_many cyI 324 u.2.2.1, kx_a g_loss cyI 324 u.2.2.2.1, kx_a g_less cyI 324 u.2.2.2.2.1, kx_a g_voteValue cyI 1944 u.2.2.2.2.2.1, kx_a g_voteNumber cyI 1944 u.2.2.2.2.2.2.1, kx_a g_allValue cyI 12 u.2.2.2.2.2.2.2.1, kx_a g_allNumber cyI 12 u.2.2.2.2.2.2.2.2.1, kx_a g_nodeL cyI 320 u.2.2.2.2.2.2.2.2.2.1, kx_a g_nodeR cyI 320 u.2.2.2.2.2.2.2.2.2.2.1, kx_a g_wasMany cyI 320 u.2.2.2.2.2.2.2.2.2.2.2.1, kx_a g_wasLoss cyI 320 u.2.2.2.2.2.2.2.2.2.2.2.2.1, kx_a g_wasValue cyI 1920 u.2.2.2.2.2.2.2.2.2.2.2.2.2.1, kx_a g_wasNumber cyI 1920 u.2.2.2.2.2.2.2.2.2.2.2.2.2.2.1]) A) ([.ref h0, .int p0, .int p1, .int p2] : List Value).toArray s 0 0 A) (F0 m 30 ls []) := by
            intro n
            induction n with
            | zero => intro k gc LP1_h0 LP1_h1 LP1_h2 hn; exact absurd hn (Nat.not_lt_zero _)
            | succ n ih1 =>
              intro k gc LP1_h0 LP1_h1 LP1_h2 hn1 H locs hP hD hS ls hl
              have n_k := ki_nat k rfl (om_0 w_1.1 LP1_h0)
              have n_p0 := ki_nat p0 rfl (om_10 w_1.1)
              refine lv_iload hx hb dX5_fill_30 (lv_at hl 0 rfl) ?_
              refine lv_iload_n hx hb dX5_fill_32 rfl (lv_at hl 3 rfl) ?_
              refine lv_icmp_ge (tgt := 50) hx hb dX5_fill_33 (by decide) (fun c_21 => ?_) (fun c_21 => ?_)
              · have i_21 : p1.toInt ≤ k.toInt := kc_le c_21
                refine lv_aload_n hx hb dX5_fill_50 rfl (lv_at hl 1 rfl) ?_
                have hPc := hP
                have hKc := hK
                have hDc := hD
                have hFc := kx_free hD hS hA
                refine va_calli (va_runV (As := []) (rest := []) ⟨hx, hb, hml, hown, hts⟩ (kx_un (c_X5_others l dC dI h0 g_row g_many g_loss g_less g_voteValue g_voteNumber g_allValue g_allNumber g_nodeL g_nodeR g_part g_wasMany g_wasLoss g_wasValue g_wasNumber g_path g_heavyValue g_heavyTimes g_fewest g_which g_met m_n m_slots 0 o_7 o_6 m_partMany m_pathMany m_heavyMany m_mostMet cyI o_8 o_9 o_10 o_11 o_12 gc o_13 o_14 o_15 o_16 o_17 o_18 o_19 o_20 H.size a0 a1 sl0 sl1 w_5)) (cwV 0 hts gX5_fill_X5_others rfl rfl rfl (by decide +kernel) ⟨Nat.le_of_ble_eq_true rfl, Nat.le_of_ble_eq_true rfl⟩) ⟨fun a U g mk q => by obtain ⟨q0, q1, qP, qK, qD⟩ := q; exact ⟨q0, q1, qP, va_K.moved (u := U) (U := U.calling g mk a) (Vm.Alike.refl U.vm) qK, qD⟩, kx_rc5 hKc hPc (q0 := 0) rfl, fun U hU hW => ⟨rfl, by rw [hU], by rw [hU]; exact hPc, va_K.moved hW.alike hKc, hDc.weaken (fun _ _ _ _ => trivial)⟩⟩ rfl rfl hl.1 rfl (lv_room (Nat.le_of_ble_eq_true rfl)) dX5_fill_51 ⟨Nat.le_of_ble_eq_true rfl, Nat.le_of_ble_eq_true rfl⟩) hS (fun q _ h => hFc q h) hFc (fun r_22 u t H1 locs ht hvm w_22 hB hz1 hk1 hS => ?_)
                obtain ⟨o_23, o_24, o_25, o_26, o_27, o_28, o_29, o_30, o_31, o_32, o_33⟩ := u
                dsimp only at w_22 hB
                obtain ⟨hP1, hK1, hD1⟩ := hB
                rw [ht] at hP1
                have hK1 := va_K.moved hvm.symm hK1
                have hD := hD1.weaken (fun _ q _ h => hFc q.1 h)
                have hP := hP1
                clear hP1 hD1 hK1 hk1 hz1 hFc hDc hPc hKc
                generalize H1 = H at hP hS ⊢
                have w_22 : six4 o_25 := w_22
                have hP9 := hP
                have hD9 := hD
                have hK9 := hK
                have e_k : k.toNatClampNeg = p1.toNatClampNeg := by have := ki_nat p1 rfl (by omega); omega
                exact W.iret (v := r_22) hx hb hr (hlocks := hlocks) (fun t ht hW => ⟨⟨r_22, (o_23, o_24, o_25, o_26, o_27, o_28, o_29, o_30, o_31, o_32, o_33, o_17, o_18, o_19, o_20, gc), rfl, ⟨Or.inl ⟨by omega, (by (try dsimp only); rw [LP1_h2, e_k])⟩, (by (try dsimp only); rw [LP1_h2]; exact shorts_fill s1 (by omega) (by omega)), w_22⟩, by rw [ht]; exact hP9, va_K.moved hW.alike hK9, hD9⟩, hS.F ht⟩) hS.2.2 dX5_fill_54
              · have i_21 : k.toInt < p1.toInt := kc_nle c_21
                refine lv_aload_n hx hb dX5_fill_36 rfl (lv_at hl 1 rfl) ?_
                refine va_get (D := (dC, dI)) (ci := 5) (v := .ref g_row) (C := RX5) (T := TX5) (N := 30) hx hb hts hi_5 hown hK hP 0 rfl rfl 0 (by decide) hf_7 (fun _ h9 => h9) rfl dX5_fill_37 ?_
                refine lv_iload hx hb dX5_fill_40 (lv_at hl 0 rfl) ?_
                refine lv_iload_n hx hb dX5_fill_42 rfl (lv_at hl 4 rfl) ?_
                refine va_iast hx hb hK hP hD hS 1 0 rfl rfl (ki_in (om_0 w_1.1 LP1_h0) (om_430 a1 w_1.2.2 i_21)) dX5_fill_43 (fun H locs hP hD hS => ?_)
                obtain ⟨hP, hD⟩ := kx_re (w2 := [kx_5 h0 g_row m_n m_slots 0 g_many g_loss g_less g_voteValue g_voteNumber g_allValue g_allNumber o_7 g_nodeL g_nodeR o_6 g_part m_partMany g_wasMany g_wasLoss g_wasValue g_wasNumber g_path m_pathMany g_heavyValue g_heavyTimes m_heavyMany g_fewest g_which g_met m_mostMet, kx_a g_row cyI 160 (upd gc k.toNatClampNeg p2), kx_a g_many cyI 324 o_8, kx_a g_loss cyI 324 o_9, kx_a g_less cyI 324 o_10, kx_a g_voteValue cyI 1944 o_11, kx_a g_voteNumber cyI 1944 o_12, kx_a g_allValue cyI 12 o_13, kx_a g_allNumber cyI 12 o_14, kx_a g_nodeL cyI 320 o_15, kx_a g_nodeR cyI 320 o_16, kx_a g_wasMany cyI 320 o_17, kx_a g_wasLoss cyI 320 o_18, kx_a g_wasValue cyI 1920 o_19, kx_a g_wasNumber cyI 1920 o_20]) hP hD rfl
                obtain ⟨x_34, ex_34⟩ : ∃ y : Int32, y = k + 1 := ⟨_, rfl⟩
                have i_34 : x_34.toInt = k.toInt + 1 := ki_add ex_34 rfl rfl (om_2 w_1.1 LP1_h0) (om_267 a1 w_1.2.2 LP1_h1)
                refine lv_iinc (v := x_34) (lv' := [(4, .int x_34), (0, .ref h0), (1, .int p0), (2, .int p1), (3, .int p2)]) hx hb dX5_fill_44 hl (k := 0) rfl (by rw [ex_34]; rfl) (by decide) rfl (fun ls hl => ?_)
                refine lv_goto (tgt := 30) hx hb dX5_fill_47 (by decide) ?_
                have n_35 := ki_nat x_34 rfl (om_89 w_1.1 LP1_h0 i_34)
                exact ih1 x_34 (upd gc k.toNatClampNeg p2) (om_4 LP1_h0 i_34) (om_54 i_21 i_34) (by rw [LP1_h2]; exact mj_fill_step (by omega) (by omega)) (om_mu hn1 (om_5 i_34) (om_6 i_21)) _ _ hP hD hS ls (lv_sub hl [0, 1, 2, 3, 4] rfl)
          exact LP1 ((p1.toInt - p0.toInt : Int).toNat + 1) p0 f om_7 (om_414 w_1.2.1) (mj_fill_0 _ _ (Nat.le_refl _)).symm (Nat.lt_succ_self _) _ _ hP hD hS ls (lv_sub hl [0, 1, 2, 3, 4] rfl)
        · exact absurd c_4 (by decide)
      · have w_3 : (p2.toInt < -32768 ∨ 32767 < p2.toInt) := w_3
        refine lv_if_ne (tgt := 23) hx hb dX5_fill_18 (by decide) (fun c_36 => ?_) (fun c_36 => ?_)
        · exact absurd c_36 (by decide)
        · refine lv_iconst (v := (-1)) hx hb dX5_fill_21 (by decide) ?_
          have hP9 := hP
          have hD9 := hD
          have hK9 := hK
          exact W.iret (v := (-1)) hx hb hr (hlocks := hlocks) (fun t ht hW => ⟨⟨(-1), (m_nodes, m_allMany, fm, fl, fe, vv, vn, av, an, nl, nr, wm, wl, wv, wn, f), rfl, ⟨Or.inr ⟨by omega, rfl, rfl⟩, s1, s4⟩, by rw [ht]; exact hP9, va_K.moved hW.alike hK9, hD9⟩, hS.F ht⟩) hS.2.2 dX5_fill_22
  · have w_1 : (p0.toInt < 0 ∨ p1.toInt ≤ p0.toInt ∨ m_n.toInt < p1.toInt) := w_1
    refine lv_if_eq (tgt := 21) hx hb dX5_fill_11 (by decide) (fun c_37 => ?_) (fun c_37 => ?_)
    · refine lv_iconst (v := (-1)) hx hb dX5_fill_21 (by decide) ?_
      have hP9 := hP
      have hD9 := hD
      have hK9 := hK
      exact W.iret (v := (-1)) hx hb hr (hlocks := hlocks) (fun t ht hW => ⟨⟨(-1), (m_nodes, m_allMany, fm, fl, fe, vv, vn, av, an, nl, nr, wm, wl, wv, wn, f), rfl, ⟨Or.inr ⟨by omega, rfl, rfl⟩, s1, s4⟩, by rw [ht]; exact hP9, va_K.moved hW.alike hK9, hD9⟩, hS.F ht⟩) hS.2.2 dX5_fill_22
    · exact absurd c_37 (by decide)

set_option maxHeartbeats 4000000 in
set_option maxRecDepth 100000 in
theorem c_X5_turn (l : Launch) (dC : Nat → ClassId) (dI : Nat → Nat → Nat) (h0 : Nat) (g_row : Nat) (g_many : Nat) (g_loss : Nat) (g_less : Nat) (g_voteValue : Nat) (g_voteNumber : Nat) (g_allValue : Nat) (g_allNumber : Nat) (g_nodeL : Nat) (g_nodeR : Nat) (g_part : Nat) (g_wasMany : Nat) (g_wasLoss : Nat) (g_wasValue : Nat) (g_wasNumber : Nat) (g_path : Nat) (g_heavyValue : Nat) (g_heavyTimes : Nat) (g_fewest : Nat) (g_which : Nat) (g_met : Nat) (m_n : Int32) (m_slots : Int32) (m_thrown : Int32) (m_allMany : Int32) (m_nodes : Int32) (m_partMany : Int32) (m_pathMany : Int32) (m_heavyMany : Int32) (m_mostMet : Int32) (cyI : ClassId) (fm : Nat → Int32) (fl : Nat → Int32) (fe : Nat → Int32) (vv : Nat → Int32) (vn : Nat → Int32) (f : Nat → Int32) (av : Nat → Int32) (an : Nat → Int32) (nl : Nat → Int32) (nr : Nat → Int32) (wm : Nat → Int32) (wl : Nat → Int32) (wv : Nat → Int32) (wn : Nat → Int32) (p0 : Int32) (p1 : Int32) (sz : Nat) (a0 : 0 ≤ m_n.toInt) (a1 : m_n.toInt ≤ 160) (sl0 : 1 ≤ m_slots.toInt) (sl1 : m_slots.toInt ≤ 6) (s4 : six4 fm) (s1 : shorts f) : kx_MQ l (dC, dI) yX5_turn wsX5_turn ({ frames := 13, cells := 0, slots := 0, locals := 585 }) [.ref h0, .int p0, .int p1] [kx_5 h0 g_row m_n m_slots m_thrown g_many g_loss g_less g_voteValue g_voteNumber g_allValue g_allNumber m_allMany g_nodeL g_nodeR m_nodes g_part m_partMany g_wasMany g_wasLoss g_wasValue g_wasNumber g_path m_pathMany g_heavyValue g_heavyTimes m_heavyMany g_fewest g_which g_met m_mostMet, kx_a g_row cyI 160 f, kx_a g_many cyI 324 fm, kx_a g_loss cyI 324 fl, kx_a g_less cyI 324 fe, kx_a g_voteValue cyI 1944 vv, kx_a g_voteNumber cyI 1944 vn, kx_a g_allValue cyI 12 av, kx_a g_allNumber cyI 12 an, kx_a g_nodeL cyI 320 nl, kx_a g_nodeR cyI 320 nr, kx_a g_wasMany cyI 320 wm, kx_a g_wasLoss cyI 320 wl, kx_a g_wasValue cyI 1920 wv, kx_a g_wasNumber cyI 1920 wn] [(cyI, .int)] sz (fun A => va_Qi (fun (r : Int32) (u : Int32 × Int32 × (Nat → Int32) × (Nat → Int32) × (Nat → Int32) × (Nat → Int32) × (Nat → Int32) × (Nat → Int32) × (Nat → Int32) × (Nat → Int32) × (Nat → Int32) × (Nat → Int32) × (Nat → Int32) × (Nat → Int32) × (Nat → Int32) × (Nat → Int32)) => (((0 ≤ p0.toInt ∧ p0.toInt < p1.toInt ∧ p1.toInt ≤ m_n.toInt) ∧ u.2.2.2.2.2.2.2.2.2.2.2.2.2.2.2 = mj_turn f p0.toNatClampNeg p1.toNatClampNeg) ∨ ((p0.toInt < 0 ∨ p1.toInt ≤ p0.toInt ∨ m_n.toInt < p1.toInt) ∧ u.2.2.2.2.2.2.2.2.2.2.2.2.2.2.2 = f ∧ r = -1)) ∧ shorts u.2.2.2.2.2.2.2.2.2.2.2.2.2.2.2 ∧ six4 u.2.2.1) (fun (u : Int32 × Int32 × (Nat → Int32) × (Nat → Int32) × (Nat → Int32) × (Nat → Int32) × (Nat → Int32) × (Nat → Int32) × (Nat → Int32) × (Nat → Int32) × (Nat → Int32) × (Nat → Int32) × (Nat → Int32) × (Nat → Int32) × (Nat → Int32) × (Nat → Int32)) (t : State) => va_P (dC, dI) vwCl [kx_5 h0 g_row m_n m_slots 0 g_many g_loss g_less g_voteValue g_voteNumber g_allValue g_allNumber u.2.1 g_nodeL g_nodeR u.1 g_part m_partMany g_wasMany g_wasLoss g_wasValue g_wasNumber g_path m_pathMany g_heavyValue g_heavyTimes m_heavyMany g_fewest g_which g_met m_mostMet, kx_a g_row cyI 160 u.2.2.2.2.2.2.2.2.2.2.2.2.2.2.2, kx_a g_many cyI 324 u.2.2.1, kx_a g_loss cyI 324 u.2.2.2.1, kx_a g_less cyI 324 u.2.2.2.2.1, kx_a g_voteValue cyI 1944 u.2.2.2.2.2.1, kx_a g_voteNumber cyI 1944 u.2.2.2.2.2.2.1, kx_a g_allValue cyI 12 u.2.2.2.2.2.2.2.1, kx_a g_allNumber cyI 12 u.2.2.2.2.2.2.2.2.1, kx_a g_nodeL cyI 320 u.2.2.2.2.2.2.2.2.2.1, kx_a g_nodeR cyI 320 u.2.2.2.2.2.2.2.2.2.2.1, kx_a g_wasMany cyI 320 u.2.2.2.2.2.2.2.2.2.2.2.1, kx_a g_wasLoss cyI 320 u.2.2.2.2.2.2.2.2.2.2.2.2.1, kx_a g_wasValue cyI 1920 u.2.2.2.2.2.2.2.2.2.2.2.2.2.1, kx_a g_wasNumber cyI 1920 u.2.2.2.2.2.2.2.2.2.2.2.2.2.2.1] t.heap ∧ va_K (dC, dI) vwCl [(cyI, .int)] t ∧ va_D A [kx_5 h0 g_row m_n m_slots 0 g_many g_loss g_less g_voteValue g_voteNumber g_allValue g_allNumber u.2.1 g_nodeL g_nodeR u.1 g_part m_partMany g_wasMany g_wasLoss g_wasValue g_wasNumber g_path m_pathMany g_heavyValue g_heavyTimes m_heavyMany g_fewest g_which g_met m_mostMet, kx_a g_row cyI 160 u.2.2.2.2.2.2.2.2.2.2.2.2.2.2.2, kx_a g_many cyI 324 u.2.2.1, kx_a g_loss cyI 324 u.2.2.2.1, kx_a g_less cyI 324 u.2.2.2.2.1, kx_a g_voteValue cyI 1944 u.2.2.2.2.2.1, kx_a g_voteNumber cyI 1944 u.2.2.2.2.2.2.1, kx_a g_allValue cyI 12 u.2.2.2.2.2.2.2.1, kx_a g_allNumber cyI 12 u.2.2.2.2.2.2.2.2.1, kx_a g_nodeL cyI 320 u.2.2.2.2.2.2.2.2.2.1, kx_a g_nodeR cyI 320 u.2.2.2.2.2.2.2.2.2.2.1, kx_a g_wasMany cyI 320 u.2.2.2.2.2.2.2.2.2.2.2.1, kx_a g_wasLoss cyI 320 u.2.2.2.2.2.2.2.2.2.2.2.2.1, kx_a g_wasValue cyI 1920 u.2.2.2.2.2.2.2.2.2.2.2.2.2.1, kx_a g_wasNumber cyI 1920 u.2.2.2.2.2.2.2.2.2.2.2.2.2.2.1]) A) := by
  refine kx_stQ (ws := wsX5_turn) (cc := cX5_turn) (maxL := 4) (ret := (some .int)) (by decide) rfl (Nat.le_of_ble_eq_true rfl) ?_
  intro p e s m below meth c A ls hx hb hr hlocks hts hown hml hA hS hP hK hD hl
  have hown : s.vm.findClass RX5 = some m.cls := hown
  have hl : lv_has ls 4 [(0, .ref h0), (1, .int p0), (2, .int p1)] := hl
  have hf_77 := hts (.fieldLink RX5 77 "MajorityIndexModel" "thrown" "I") (List.mem_of_getElem? (i := 1) rfl)
  have hi_5 : ∀ w ∈ u_ws RX5 TX5 30, w ∈ wsX5_turn := fun w h => List.mem_cons_of_mem _ (List.mem_append_right _ h)
  refine lv_aload_n hx hb dX5_turn_0 rfl (lv_at hl 0 rfl) ?_
  refine lv_iconst (v := 0) hx hb dX5_turn_1 (by decide) ?_
  refine va_put (D := (dC, dI)) (ci := 5) (v := .int 0) (ty := .int) (C := RX5) (T := TX5) (N := 30) hx hb hts hi_5 tyX5 tyX5_ok nmX5 hown hK hP hD hS 0 rfl rfl 3 (by decide) hf_77 (fun _ h9 => h9) rfl (by decide +kernel) rfl rfl (Nat.le_of_ble_eq_true rfl) dX5_turn_2 (fun H locs hP hD hS => ?_)
  obtain ⟨hP, hD⟩ := kx_re (w2 := [kx_5 h0 g_row m_n m_slots 0 g_many g_loss g_less g_voteValue g_voteNumber g_allValue g_allNumber m_allMany g_nodeL g_nodeR m_nodes g_part m_partMany g_wasMany g_wasLoss g_wasValue g_wasNumber g_path m_pathMany g_heavyValue g_heavyTimes m_heavyMany g_fewest g_which g_met m_mostMet, kx_a g_row cyI 160 f, kx_a g_many cyI 324 fm, kx_a g_loss cyI 324 fl, kx_a g_less cyI 324 fe, kx_a g_voteValue cyI 1944 vv, kx_a g_voteNumber cyI 1944 vn, kx_a g_allValue cyI 12 av, kx_a g_allNumber cyI 12 an, kx_a g_nodeL cyI 320 nl, kx_a g_nodeR cyI 320 nr, kx_a g_wasMany cyI 320 wm, kx_a g_wasLoss cyI 320 wl, kx_a g_wasValue cyI 1920 wv, kx_a g_wasNumber cyI 1920 wn]) hP hD rfl
  refine lv_aload_n hx hb dX5_turn_5 rfl (lv_at hl 0 rfl) ?_
  refine lv_iload_n hx hb dX5_turn_6 rfl (lv_at hl 1 rfl) ?_
  refine lv_iload_n hx hb dX5_turn_7 rfl (lv_at hl 2 rfl) ?_
  have hPc := hP.sub (ws' := [kx_5 h0 g_row m_n m_slots 0 g_many g_loss g_less g_voteValue g_voteNumber g_allValue g_allNumber m_allMany g_nodeL g_nodeR m_nodes g_part m_partMany g_wasMany g_wasLoss g_wasValue g_wasNumber g_path m_pathMany g_heavyValue g_heavyTimes m_heavyMany g_fewest g_which g_met m_mostMet]) [0] rfl
  have hKc := hK.sub (tys' := []) [] rfl
  refine vp_callSi (W.runV (As := [.int p0, .int p1]) (rest := []) ⟨hx, hb, hml, hown, hts⟩ (c_X5_isRange l dC dI h0 g_row g_many g_loss g_less g_voteValue g_voteNumber g_allValue g_allNumber g_nodeL g_nodeR g_part g_wasMany g_wasLoss g_wasValue g_wasNumber g_path g_heavyValue g_heavyTimes g_fewest g_which g_met m_n m_slots 0 m_allMany m_nodes m_partMany m_pathMany m_heavyMany m_mostMet p0 p1) (cwV 2 hts gX5_turn_X5_isRange rfl rfl rfl (by decide +kernel) ⟨Nat.le_of_ble_eq_true rfl, Nat.le_of_ble_eq_true rfl⟩) ⟨fun a U g mk q => by obtain ⟨q0, qP, qK⟩ := q; exact ⟨q0, qP, va_K.moved (u := U) (U := U.calling g mk a) (Vm.Alike.refl U.vm) qK⟩, kx_rc5 hKc hPc (q0 := 0) rfl, fun U hU hW => ⟨rfl, by rw [hU]; exact hPc, va_K.moved hW.alike hKc⟩⟩ rfl rfl hl.1 rfl (lv_room (Nat.le_of_ble_eq_true rfl)) dX5_turn_8 ⟨Nat.le_of_ble_eq_true rfl, Nat.le_of_ble_eq_true rfl⟩) (fun r_1 w_1 => ?_)
  rcases w_1 with ⟨rfl, w_1⟩ | ⟨rfl, w_1⟩
  · have w_1 : (0 ≤ p0.toInt ∧ p0.toInt < p1.toInt ∧ p1.toInt ≤ m_n.toInt) := w_1
    refine lv_if_ne (tgt := 16) hx hb dX5_turn_11 (by decide) (fun c_2 => ?_) (fun c_2 => ?_)
    · refine lv_aload_n hx hb dX5_turn_16 rfl (lv_at hl 0 rfl) ?_
      have hPc := hP
      have hKc := hK
      have hDc := hD
      have hFc := kx_free hD hS hA
      refine va_callv (va_runV (As := []) (rest := []) ⟨hx, hb, hml, hown, hts⟩ (kx_un (c_X5_keeps l dC dI h0 g_row g_many g_loss g_less g_voteValue g_voteNumber g_allValue g_allNumber g_nodeL g_nodeR g_part g_wasMany g_wasLoss g_wasValue g_wasNumber g_path g_heavyValue g_heavyTimes g_fewest g_which g_met m_n m_slots 0 m_allMany m_nodes m_partMany m_pathMany m_heavyMany m_mostMet cyI fm fl fe vv vn f av an nl nr wm wl wv wn H.size a0 a1 sl0 sl1 s4)) (cwV 0 hts gX5_turn_X5_keeps rfl rfl rfl (by decide +kernel) ⟨Nat.le_of_ble_eq_true rfl, Nat.le_of_ble_eq_true rfl⟩) ⟨fun a U g mk q => by obtain ⟨q0, q1, qP, qK, qD⟩ := q; exact ⟨q0, q1, qP, va_K.moved (u := U) (U := U.calling g mk a) (Vm.Alike.refl U.vm) qK, qD⟩, kx_rc5 hKc hPc (q0 := 0) rfl, fun U hU hW => ⟨rfl, by rw [hU], by rw [hU]; exact hPc, va_K.moved hW.alike hKc, hDc.weaken (fun _ _ _ _ => trivial)⟩⟩ rfl rfl hl.1 rfl (lv_room (Nat.le_of_ble_eq_true rfl)) dX5_turn_17 ⟨Nat.le_of_ble_eq_true rfl, Nat.le_of_ble_eq_true rfl⟩) hS (fun q _ h => hFc q h) hFc (fun u t H1 locs ht hvm w_3 hB hz1 hk1 hS => ?_)
      obtain ⟨o_4, o_5, o_6, o_7, o_8, o_9, o_10, o_11, o_12, o_13, o_14, o_15, o_16, o_17, o_18⟩ := u
      dsimp only at w_3 hB
      obtain ⟨hP1, hK1, hD1⟩ := hB
      rw [ht] at hP1
      have hK1 := va_K.moved hvm.symm hK1
      have hD := hD1.weaken (fun _ q _ h => hFc q.1 h)
      have hP := hP1
      clear hP1 hD1 hK1 hk1 hz1 hFc hDc hPc hKc
      generalize H1 = H at hP hS ⊢
      have w_3 : six4 o_6 := w_3
      refine lv_iconst (v := 0) hx hb dX5_turn_20 (by decide) ?_
      refine lv_istore_n (lv' := [(3, .int 0), (0, .ref h0), (1, .int p0), (2, .int p1)]) hx hb dX5_turn_21 rfl hl (by decide) rfl (fun ls hl => ?_)
      have LP1 : ∀ (n : Nat) (k : Int32) (gc : Nat → Int32), (0 ≤ k.toInt) → (2 * k.toInt ≤ p1.toInt - p0.toInt) → (k.toInt ≤ 160) → (gc = mj_tu f p0.toNatClampNeg p1.toNatClampNeg k.toNatClampNeg) → (p1.toInt - p0.toInt - 2 * k.toInt).toNat < n → ∀ (H : Heap) (locs : List Loc), va_P (dC, dI) vwCl [kx_5 h0 g_row m_n m_slots 0 g_many g_loss g_less g_voteValue g_voteNumber g_allValue g_allNumber o_5 g_nodeL g_nodeR o_4 g_part m_partMany g_wasMany g_wasLoss g_wasValue g_wasNumber g_path m_pathMany g_heavyValue g_heavyTimes m_heavyMany g_fewest g_which g_met m_mostMet, kx_a g_row cyI 160 gc, kx_a g_many cyI 324 o_6, kx_a g_loss cyI 324 o_7, kx_a g_less cyI 324 o_8, kx_a g_voteValue cyI 1944 o_9, kx_a g_voteNumber cyI 1944 o_10, kx_a g_allValue cyI 12 o_11, kx_a g_allNumber cyI 12 o_12, kx_a g_nodeL cyI 320 o_13, kx_a g_nodeR cyI 320 o_14, kx_a g_wasMany cyI 320 o_15, kx_a g_wasLoss cyI 320 o_16, kx_a g_wasValue cyI 1920 o_17, kx_a g_wasNumber cyI 1920 o_18] H → va_D A [kx_5 h0 g_row m_n m_slots 0 g_many g_loss g_less g_voteValue g_voteNumber g_allValue g_allNumber o_5 g_nodeL g_nodeR o_4 g_part m_partMany g_wasMany g_wasLoss g_wasValue g_wasNumber g_path m_pathMany g_heavyValue g_heavyTimes m_heavyMany g_fewest g_which g_met m_mostMet, kx_a g_row cyI 160 gc, kx_a g_many cyI 324 o_6, kx_a g_loss cyI 324 o_7, kx_a g_less cyI 324 o_8, kx_a g_voteValue cyI 1944 o_9, kx_a g_voteNumber cyI 1944 o_10, kx_a g_allValue cyI 12 o_11, kx_a g_allNumber cyI 12 o_12, kx_a g_nodeL cyI 320 o_13, kx_a g_nodeR cyI 320 o_14, kx_a g_wasMany cyI 320 o_15, kx_a g_wasLoss cyI 320 o_16, kx_a g_wasValue cyI 1920 o_17, kx_a g_wasNumber cyI 1920 o_18] → va_S A s.heap H locs → ∀ (ls : Array Slot), lv_has ls 4 [(3, .int k), (0, .ref h0), (1, .int p0), (2, .int p1)] → W p l e (headSpec wsX5_turn ({ frames := 13, cells := 0, slots := 0, locals := 585 })).room s m ([.ref h0, .int p0, .int p1] : List Value).toArray below meth c H locs 0 0 (MQ below (va_Qi (fun (r : Int32) (u : Int32 × Int32 × (Nat → Int32) × (Nat → Int32) × (Nat → Int32) × (Nat → Int32) × (Nat → Int32) × (Nat → Int32) × (Nat → Int32) × (Nat → Int32) × (Nat → Int32) × (Nat → Int32) × (Nat → Int32) × (Nat → Int32) × (Nat → Int32) × (Nat → Int32)) => (((0 ≤ p0.toInt ∧ p0.toInt < p1.toInt ∧ p1.toInt ≤ m_n.toInt) ∧ u.2.2.2.2.2.2.2.2.2.2.2.2.2.2.2 = mj_turn f p0.toNatClampNeg p1.toNatClampNeg) ∨ ((p0.toInt < 0 ∨ p1.toInt ≤ p0.toInt ∨ m_n.toInt < p1.toInt) ∧ u.2.2.2.2.2.2.2.2.2.2.2.2.2.2.2 = f ∧ r = -1)) ∧ shorts u.2.2.2.2.2.2.2.2.2.2.2.2.2.2.2 ∧ six4 u.2.2.1) (fun (u : Int32 × Int32 × (Nat → Int32) × (Nat → Int32) × (Nat → Int32) × (Nat → Int32) × (Nat → Int32) × (Nat → Int32) × (Nat → Int32) × (Nat → Int32) × (Nat → Int32) × (Nat → Int32) × (Nat → Int32) × (Nat → Int32) × (Nat → Int32) × (Nat → Int32)) (t : State) => va_P (dC, dI) vwCl [kx_5 h0 g_row m_n m_slots 0 g_many g_loss g_less g_voteValue g_voteNumber g_allValue g_allNumber u.2.1 g_nodeL g_nodeR u.1 g_part m_partMany g_wasMany g_wasLoss g_wasValue g_wasNumber g_path m_pathMany g_heavyValue g_heavyTimes m_heavyMany g_fewest g_which g_met m_mostMet, kx_a g_row cyI 160 u.2.2.2.2.2.2.2.2.2.2.2.2.2.2.2, kx_a g_many cyI 324 u.2.2.1, kx_a g_loss cyI 324 u.2.2.2.1, kx_a g_less cyI 324 u.2.2.2.2.1, kx_a g_voteValue cyI 1944 u.2.2.2.2.2.1, kx_a g_voteNumber cyI 1944 u.2.2.2.2.2.2.1, kx_a g_allValue cyI 12 u.2.2.2.2.2.2.2.1, kx_a g_allNumber cyI 12 u.2.2.2.2.2.2.2.2.1, kx_a g_nodeL cyI 320 u.2.2.2.2.2.2.2.2.2.1, kx_a g_nodeR cyI 320 u.2.2.2.2.2.2.2.2.2.2.1, kx_a g_wasMany cyI 320 u.2.2.2.2.2.2.2.2.2.2.2.1, kx_a g_wasLoss cyI 320 u.2.2.2.2.2.2.2.2.2.2.2.2.1, kx_a g_wasValue cyI 1920 u.2.2.2.2.2.2.2.2.2.2.2.2.2.1, kx_a g_wasNumber cyI 1920 u.2.2.2.2.2.2.2.2.2.2.2.2.2.2.1] t.heap ∧ va_K (dC, dI) vwCl [(cyI, .int)] t ∧ va_D A [kx_5 h0 g_row m_n m_slots 0 g_many g_loss g_less g_voteValue g_voteNumber g_allValue g_allNumber u.2.1 g_nodeL g_nodeR u.1 g_part m_partMany g_wasMany g_wasLoss g_wasValue g_wasNumber g_path m_pathMany g_heavyValue g_heavyTimes m_heavyMany g_fewest g_which g_met m_mostMet, kx_a g_row cyI 160 u.2.2.2.2.2.2.2.2.2.2.2.2.2.2.2, kx_a g_many cyI 324 u.2.2.1, kx_a g_loss cyI 324 u.2.2.2.1, kx_a g_less cyI 324 u.2.2.2.2.1, kx_a g_voteValue cyI 1944 u.2.2.2.2.2.1, kx_a g_voteNumber cyI 1944 u.2.2.2.2.2.2.1, kx_a g_allValue cyI 12 u.2.2.2.2.2.2.2.1, kx_a g_allNumber cyI 12 u.2.2.2.2.2.2.2.2.1, kx_a g_nodeL cyI 320 u.2.2.2.2.2.2.2.2.2.1, kx_a g_nodeR cyI 320 u.2.2.2.2.2.2.2.2.2.2.1, kx_a g_wasMany cyI 320 u.2.2.2.2.2.2.2.2.2.2.2.1, kx_a g_wasLoss cyI 320 u.2.2.2.2.2.2.2.2.2.2.2.2.1, kx_a g_wasValue cyI 1920 u.2.2.2.2.2.2.2.2.2.2.2.2.2.1, kx_a g_wasNumber cyI 1920 u.2.2.2.2.2.2.2.2.2.2.2.2.2.2.1]) A) ([.ref h0, .int p0, .int p1] : List Value).toArray s 0 0 A) (F0 m 22 ls []) := by
        intro n
        induction n with
        | zero => intro k gc LP1_h0 LP1_h1 LP1_h2 LP1_h3 hn; exact absurd hn (Nat.not_lt_zero _)
        | succ n ih1 =>
          intro k gc LP1_h0 LP1_h1 LP1_h2 LP1_h3 hn1 H locs hP hD hS ls hl
          have n_k := ki_nat k rfl (om_10 LP1_h0)
          have n_p0 := ki_nat p0 rfl (om_10 w_1.1)
          have n_p1 := ki_nat p1 rfl (om_21 w_1.1 w_1.2.1)
          refine lv_iload_n hx hb dX5_turn_22 rfl (lv_at hl 0 rfl) ?_
          refine lv_iload_n hx hb dX5_turn_23 rfl (lv_at hl 3 rfl) ?_
          refine lv_iload_n hx hb dX5_turn_24 rfl (lv_at hl 2 rfl) ?_
          refine lv_isub hx hb dX5_turn_25 ?_
          refine lv_topi (fun y_19 ey_19 => ?_)
          have i_19 : y_19.toInt = p1.toInt - p0.toInt := ki_sub ey_19 rfl rfl (om_168 w_1.2.1) (om_169 a1 w_1.1 w_1.2.2)
          refine lv_iconst (v := 2) hx hb dX5_turn_26 (by decide) ?_
          refine lv_idiv hx hb dX5_turn_27 (by decide) ?_
          refine lv_topi (fun y_20 ey_20 => ?_)
          have i_20 : y_20.toInt = y_19.toInt / 2 := ki_div2 ey_20 rfl (om_431 w_1.2.1 i_19)
          have d_21 := om_dv i_20
          refine lv_icmp_ge (tgt := 49) hx hb dX5_turn_28 (by decide) (fun c_22 => ?_) (fun c_22 => ?_)
          · have i_22 : y_20.toInt ≤ k.toInt := kc_le c_22
            refine lv_aload_n hx hb dX5_turn_49 rfl (lv_at hl 1 rfl) ?_
            have hPc := hP
            have hKc := hK
            have hDc := hD
            have hFc := kx_free hD hS hA
            refine va_calli (va_runV (As := []) (rest := []) ⟨hx, hb, hml, hown, hts⟩ (kx_un (c_X5_others l dC dI h0 g_row g_many g_loss g_less g_voteValue g_voteNumber g_allValue g_allNumber g_nodeL g_nodeR g_part g_wasMany g_wasLoss g_wasValue g_wasNumber g_path g_heavyValue g_heavyTimes g_fewest g_which g_met m_n m_slots 0 o_5 o_4 m_partMany m_pathMany m_heavyMany m_mostMet cyI o_6 o_7 o_8 o_9 o_10 gc o_11 o_12 o_13 o_14 o_15 o_16 o_17 o_18 H.size a0 a1 sl0 sl1 w_3)) (cwV 0 hts gX5_turn_X5_others rfl rfl rfl (by decide +kernel) ⟨Nat.le_of_ble_eq_true rfl, Nat.le_of_ble_eq_true rfl⟩) ⟨fun a U g mk q => by obtain ⟨q0, q1, qP, qK, qD⟩ := q; exact ⟨q0, q1, qP, va_K.moved (u := U) (U := U.calling g mk a) (Vm.Alike.refl U.vm) qK, qD⟩, kx_rc5 hKc hPc (q0 := 0) rfl, fun U hU hW => ⟨rfl, by rw [hU], by rw [hU]; exact hPc, va_K.moved hW.alike hKc, hDc.weaken (fun _ _ _ _ => trivial)⟩⟩ rfl rfl hl.1 rfl (lv_room (Nat.le_of_ble_eq_true rfl)) dX5_turn_50 ⟨Nat.le_of_ble_eq_true rfl, Nat.le_of_ble_eq_true rfl⟩) hS (fun q _ h => hFc q h) hFc (fun r_23 u t H1 locs ht hvm w_23 hB hz1 hk1 hS => ?_)
            obtain ⟨o_24, o_25, o_26, o_27, o_28, o_29, o_30, o_31, o_32, o_33, o_34⟩ := u
            dsimp only at w_23 hB
            obtain ⟨hP1, hK1, hD1⟩ := hB
            rw [ht] at hP1
            have hK1 := va_K.moved hvm.symm hK1
            have hD := hD1.weaken (fun _ q _ h => hFc q.1 h)
            have hP := hP1
            clear hP1 hD1 hK1 hk1 hz1 hFc hDc hPc hKc
            generalize H1 = H at hP hS ⊢
            have w_23 : six4 o_26 := w_23
            have hP9 := hP
            have hD9 := hD
            have hK9 := hK
            have e_t : gc = mj_turn f p0.toNatClampNeg p1.toNatClampNeg := by rw [LP1_h3]; exact mj_tu_end (by omega) (by omega) (by omega)
            exact W.iret (v := r_23) hx hb hr (hlocks := hlocks) (fun t ht hW => ⟨⟨r_23, (o_24, o_25, o_26, o_27, o_28, o_29, o_30, o_31, o_32, o_33, o_34, o_15, o_16, o_17, o_18, gc), rfl, ⟨Or.inl ⟨by omega, e_t⟩, (by (try dsimp only); rw [e_t]; exact shorts_turn s1 (by omega)), w_23⟩, by rw [ht]; exact hP9, va_K.moved hW.alike hK9, hD9⟩, hS.F ht⟩) hS.2.2 dX5_turn_53
          · have i_22 : k.toInt < y_20.toInt := kc_nle c_22
            refine lv_aload_n hx hb dX5_turn_31 rfl (lv_at hl 1 rfl) ?_
            refine lv_iload_n hx hb dX5_turn_32 rfl (lv_at hl 2 rfl) ?_
            refine lv_iload_n hx hb dX5_turn_33 rfl (lv_at hl 0 rfl) ?_
            refine lv_iadd hx hb dX5_turn_34 ?_
            refine lv_topi (fun y_35 ey_35 => ?_)
            have i_35 : y_35.toInt = p0.toInt + k.toInt := ki_add ey_35 rfl rfl (om_432 w_1.1 LP1_h0) (om_433 a1 w_1.2.1 w_1.2.2 LP1_h1)
            refine lv_iload_n hx hb dX5_turn_35 rfl (lv_at hl 3 rfl) ?_
            refine lv_iconst (v := 1) hx hb dX5_turn_36 (by decide) ?_
            refine lv_isub hx hb dX5_turn_37 ?_
            refine lv_topi (fun y_36 ey_36 => ?_)
            have i_36 : y_36.toInt = p1.toInt - 1 := ki_sub ey_36 rfl rfl (om_17 w_1.1 w_1.2.1) (om_183 a1 w_1.2.2)
            refine lv_iload_n hx hb dX5_turn_38 rfl (lv_at hl 0 rfl) ?_
            refine lv_isub hx hb dX5_turn_39 ?_
            refine lv_topi (fun y_37 ey_37 => ?_)
            have i_37 : y_37.toInt = y_36.toInt - k.toInt := ki_sub ey_37 rfl rfl (om_434 w_1.1 w_1.2.1 LP1_h1 i_36) (om_435 a1 w_1.2.2 LP1_h0 i_36)
            obtain ⟨hPc, hDc, hFc, hCc⟩ := kx_preM (wc := [kx_5 h0 g_row m_n m_slots 0 g_many g_loss g_less g_voteValue g_voteNumber g_allValue g_allNumber o_5 g_nodeL g_nodeR o_4 g_part m_partMany g_wasMany g_wasLoss g_wasValue g_wasNumber g_path m_pathMany g_heavyValue g_heavyTimes m_heavyMany g_fewest g_which g_met m_mostMet, kx_a g_row cyI 160 gc]) hP hD hS hA [true, true, false, false, false, false, false, false, false, false, false, false, false, false, false] rfl
            have hKc := hK
            refine va_callv (va_runV (As := [.int y_35, .int y_37]) (rest := []) ⟨hx, hb, hml, hown, hts⟩ (kx_un (c_X5_exchanges l dC dI h0 g_row g_many g_loss g_less g_voteValue g_voteNumber g_allValue g_allNumber g_nodeL g_nodeR g_part g_wasMany g_wasLoss g_wasValue g_wasNumber g_path g_heavyValue g_heavyTimes g_fewest g_which g_met m_n m_slots 0 o_5 o_4 m_partMany m_pathMany m_heavyMany m_mostMet cyI gc y_35 y_37 H.size (om_436 w_1.1 LP1_h0 i_35) (om_437 a1 w_1.2.1 w_1.2.2 LP1_h1 i_19 d_21.1 i_22 i_35) (om_438 w_1.1 w_1.2.1 LP1_h1 i_19 d_21.1 i_22 i_36 i_37) (om_439 a1 w_1.2.2 LP1_h0 i_36 i_37))) (cwV 2 hts gX5_turn_X5_exchanges rfl rfl rfl (by decide +kernel) ⟨Nat.le_of_ble_eq_true rfl, Nat.le_of_ble_eq_true rfl⟩) ⟨fun a U g mk q => by obtain ⟨q0, q1, qP, qK, qD⟩ := q; exact ⟨q0, q1, qP, va_K.moved (u := U) (U := U.calling g mk a) (Vm.Alike.refl U.vm) qK, qD⟩, kx_rc5 hKc hPc (q0 := 0) rfl, fun U hU hW => ⟨rfl, by rw [hU], by rw [hU]; exact hPc, va_K.moved hW.alike hKc, hDc.weaken (fun _ _ _ _ => trivial)⟩⟩ rfl rfl hl.1 rfl (lv_room (Nat.le_of_ble_eq_true rfl)) dX5_turn_40 ⟨Nat.le_of_ble_eq_true rfl, Nat.le_of_ble_eq_true rfl⟩) hS (fun q _ h => hFc q h) hFc (fun u t H1 locs ht hvm w_38 hB hz1 hk1 hS => ?_)
            obtain ⟨o_39, rfl⟩ : ∃ z, z = u := ⟨_, rfl⟩
            obtain ⟨hP1, hK1, hD1⟩ := hB
            rw [ht] at hP1
            have hK1 := va_K.moved hvm.symm hK1
            obtain ⟨hP, hD⟩ := kx_joinM (w2 := [kx_5 h0 g_row m_n m_slots 0 g_many g_loss g_less g_voteValue g_voteNumber g_allValue g_allNumber o_5 g_nodeL g_nodeR o_4 g_part m_partMany g_wasMany g_wasLoss g_wasValue g_wasNumber g_path m_pathMany g_heavyValue g_heavyTimes m_heavyMany g_fewest g_which g_met m_mostMet, kx_a g_row cyI 160 o_39, kx_a g_many cyI 324 o_6, kx_a g_loss cyI 324 o_7, kx_a g_less cyI 324 o_8, kx_a g_voteValue cyI 1944 o_9, kx_a g_voteNumber cyI 1944 o_10, kx_a g_allValue cyI 12 o_11, kx_a g_allNumber cyI 12 o_12, kx_a g_nodeL cyI 320 o_13, kx_a g_nodeR cyI 320 o_14, kx_a g_wasMany cyI 320 o_15, kx_a g_wasLoss cyI 320 o_16, kx_a g_wasValue cyI 1920 o_17, kx_a g_wasNumber cyI 1920 o_18]) hP hD hP1 hD1 hk1 hFc [true, true, false, false, false, false, false, false, false, false, false, false, false, false, false] hCc rfl
            clear hP1 hD1 hK1 hk1 hz1 hFc hDc hPc hKc hCc
            generalize H1 = H at hP hS ⊢
            have w_38 : o_39 = mj_ex gc y_35.toNatClampNeg y_37.toNatClampNeg := w_38
            obtain ⟨x_40, ex_40⟩ : ∃ y : Int32, y = k + 1 := ⟨_, rfl⟩
            have i_40 : x_40.toInt = k.toInt + 1 := ki_add ex_40 rfl rfl (om_13 LP1_h0) (om_192 LP1_h2)
            refine lv_iinc (v := x_40) (lv' := [(3, .int x_40), (0, .ref h0), (1, .int p0), (2, .int p1)]) hx hb dX5_turn_43 hl (k := 0) rfl (by rw [ex_40]; rfl) (by decide) rfl (fun ls hl => ?_)
            refine lv_goto (tgt := 22) hx hb dX5_turn_46 (by decide) ?_
            have n_41 := ki_nat y_35 rfl (om_436 w_1.1 LP1_h0 i_35)
            have n_42 := ki_nat y_37 rfl (om_438 w_1.1 w_1.2.1 LP1_h1 i_19 d_21.1 i_22 i_36 i_37)
            have n_43 := ki_nat x_40 rfl (om_34 LP1_h0 i_40)
            exact ih1 x_40 o_39 (om_34 LP1_h0 i_40) (om_440 i_19 d_21.1 i_22 i_40) (om_441 a1 w_1.1 w_1.2.2 LP1_h1 LP1_h2 i_40) (by rw [w_38, LP1_h3]; exact mj_tu_step (by omega) (by omega) (by omega) (by omega) (by omega)) (om_mu hn1 (om_442 i_40) (om_443 LP1_h1 i_19 d_21.1 i_22)) _ _ hP hD hS ls (lv_sub hl [0, 1, 2, 3] rfl)
      have k_44 : (0 : Int32).toInt = 0 := rfl
      exact LP1 ((p1.toInt - p0.toInt - 2 * 0 : Int).toNat + 1) 0 f om_35 (om_444 w_1.2.1) om_415 (mj_tu_0 _ _ _ rfl).symm (Nat.lt_succ_self _) _ _ hP hD hS ls (lv_sub hl [0, 1, 2, 3] rfl)
    · exact absurd c_2 (by decide)
  · have w_1 : (p0.toInt < 0 ∨ p1.toInt ≤ p0.toInt ∨ m_n.toInt < p1.toInt) := w_1
    refine lv_if_ne (tgt := 16) hx hb dX5_turn_11 (by decide) (fun c_45 => ?_) (fun c_45 => ?_)
    · exact absurd c_45 (by decide)
    · refine lv_iconst (v := (-1)) hx hb dX5_turn_14 (by decide) ?_
      have hP9 := hP
      have hD9 := hD
      have hK9 := hK
      exact W.iret (v := (-1)) hx hb hr (hlocks := hlocks) (fun t ht hW => ⟨⟨(-1), (m_nodes, m_allMany, fm, fl, fe, vv, vn, av, an, nl, nr, wm, wl, wv, wn, f), rfl, ⟨Or.inr ⟨by omega, rfl, rfl⟩, s1, s4⟩, by rw [ht]; exact hP9, va_K.moved hW.alike hK9, hD9⟩, hS.F ht⟩) hS.2.2 dX5_turn_15

set_option maxHeartbeats 4000000 in
set_option maxRecDepth 100000 in
theorem c_X5_swap (l : Launch) (dC : Nat → ClassId) (dI : Nat → Nat → Nat) (h0 : Nat) (g_row : Nat) (g_many : Nat) (g_loss : Nat) (g_less : Nat) (g_voteValue : Nat) (g_voteNumber : Nat) (g_allValue : Nat) (g_allNumber : Nat) (g_nodeL : Nat) (g_nodeR : Nat) (g_part : Nat) (g_wasMany : Nat) (g_wasLoss : Nat) (g_wasValue : Nat) (g_wasNumber : Nat) (g_path : Nat) (g_heavyValue : Nat) (g_heavyTimes : Nat) (g_fewest : Nat) (g_which : Nat) (g_met : Nat) (m_n : Int32) (m_slots : Int32) (m_thrown : Int32) (m_allMany : Int32) (m_nodes : Int32) (m_partMany : Int32) (m_pathMany : Int32) (m_heavyMany : Int32) (m_mostMet : Int32) (cyI : ClassId) (fm : Nat → Int32) (fl : Nat → Int32) (fe : Nat → Int32) (vv : Nat → Int32) (vn : Nat → Int32) (f : Nat → Int32) (av : Nat → Int32) (an : Nat → Int32) (nl : Nat → Int32) (nr : Nat → Int32) (wm : Nat → Int32) (wl : Nat → Int32) (wv : Nat → Int32) (wn : Nat → Int32) (p0 : Int32) (p1 : Int32) (sz : Nat) (a0 : 0 ≤ m_n.toInt) (a1 : m_n.toInt ≤ 160) (sl0 : 1 ≤ m_slots.toInt) (sl1 : m_slots.toInt ≤ 6) (s4 : six4 fm) (s1 : shorts f) : kx_MQ l (dC, dI) yX5_swap wsX5_swap ({ frames := 13, cells := 0, slots := 0, locals := 585 }) [.ref h0, .int p0, .int p1] [kx_5 h0 g_row m_n m_slots m_thrown g_many g_loss g_less g_voteValue g_voteNumber g_allValue g_allNumber m_allMany g_nodeL g_nodeR m_nodes g_part m_partMany g_wasMany g_wasLoss g_wasValue g_wasNumber g_path m_pathMany g_heavyValue g_heavyTimes m_heavyMany g_fewest g_which g_met m_mostMet, kx_a g_row cyI 160 f, kx_a g_many cyI 324 fm, kx_a g_loss cyI 324 fl, kx_a g_less cyI 324 fe, kx_a g_voteValue cyI 1944 vv, kx_a g_voteNumber cyI 1944 vn, kx_a g_allValue cyI 12 av, kx_a g_allNumber cyI 12 an, kx_a g_nodeL cyI 320 nl, kx_a g_nodeR cyI 320 nr, kx_a g_wasMany cyI 320 wm, kx_a g_wasLoss cyI 320 wl, kx_a g_wasValue cyI 1920 wv, kx_a g_wasNumber cyI 1920 wn] [(cyI, .int)] sz (fun A => va_Qi (fun (r : Int32) (u : Int32 × Int32 × (Nat → Int32) × (Nat → Int32) × (Nat → Int32) × (Nat → Int32) × (Nat → Int32) × (Nat → Int32) × (Nat → Int32) × (Nat → Int32) × (Nat → Int32) × (Nat → Int32) × (Nat → Int32) × (Nat → Int32) × (Nat → Int32) × (Nat → Int32)) => (((0 ≤ p0.toInt ∧ p0.toInt < m_n.toInt ∧ 0 ≤ p1.toInt ∧ p1.toInt < m_n.toInt) ∧ u.2.2.2.2.2.2.2.2.2.2.2.2.2.2.2 = mj_ex f p0.toNatClampNeg p1.toNatClampNeg) ∨ ((p0.toInt < 0 ∨ m_n.toInt ≤ p0.toInt ∨ p1.toInt < 0 ∨ m_n.toInt ≤ p1.toInt) ∧ u.2.2.2.2.2.2.2.2.2.2.2.2.2.2.2 = f ∧ r = -1)) ∧ shorts u.2.2.2.2.2.2.2.2.2.2.2.2.2.2.2 ∧ six4 u.2.2.1) (fun (u : Int32 × Int32 × (Nat → Int32) × (Nat → Int32) × (Nat → Int32) × (Nat → Int32) × (Nat → Int32) × (Nat → Int32) × (Nat → Int32) × (Nat → Int32) × (Nat → Int32) × (Nat → Int32) × (Nat → Int32) × (Nat → Int32) × (Nat → Int32) × (Nat → Int32)) (t : State) => va_P (dC, dI) vwCl [kx_5 h0 g_row m_n m_slots 0 g_many g_loss g_less g_voteValue g_voteNumber g_allValue g_allNumber u.2.1 g_nodeL g_nodeR u.1 g_part m_partMany g_wasMany g_wasLoss g_wasValue g_wasNumber g_path m_pathMany g_heavyValue g_heavyTimes m_heavyMany g_fewest g_which g_met m_mostMet, kx_a g_row cyI 160 u.2.2.2.2.2.2.2.2.2.2.2.2.2.2.2, kx_a g_many cyI 324 u.2.2.1, kx_a g_loss cyI 324 u.2.2.2.1, kx_a g_less cyI 324 u.2.2.2.2.1, kx_a g_voteValue cyI 1944 u.2.2.2.2.2.1, kx_a g_voteNumber cyI 1944 u.2.2.2.2.2.2.1, kx_a g_allValue cyI 12 u.2.2.2.2.2.2.2.1, kx_a g_allNumber cyI 12 u.2.2.2.2.2.2.2.2.1, kx_a g_nodeL cyI 320 u.2.2.2.2.2.2.2.2.2.1, kx_a g_nodeR cyI 320 u.2.2.2.2.2.2.2.2.2.2.1, kx_a g_wasMany cyI 320 u.2.2.2.2.2.2.2.2.2.2.2.1, kx_a g_wasLoss cyI 320 u.2.2.2.2.2.2.2.2.2.2.2.2.1, kx_a g_wasValue cyI 1920 u.2.2.2.2.2.2.2.2.2.2.2.2.2.1, kx_a g_wasNumber cyI 1920 u.2.2.2.2.2.2.2.2.2.2.2.2.2.2.1] t.heap ∧ va_K (dC, dI) vwCl [(cyI, .int)] t ∧ va_D A [kx_5 h0 g_row m_n m_slots 0 g_many g_loss g_less g_voteValue g_voteNumber g_allValue g_allNumber u.2.1 g_nodeL g_nodeR u.1 g_part m_partMany g_wasMany g_wasLoss g_wasValue g_wasNumber g_path m_pathMany g_heavyValue g_heavyTimes m_heavyMany g_fewest g_which g_met m_mostMet, kx_a g_row cyI 160 u.2.2.2.2.2.2.2.2.2.2.2.2.2.2.2, kx_a g_many cyI 324 u.2.2.1, kx_a g_loss cyI 324 u.2.2.2.1, kx_a g_less cyI 324 u.2.2.2.2.1, kx_a g_voteValue cyI 1944 u.2.2.2.2.2.1, kx_a g_voteNumber cyI 1944 u.2.2.2.2.2.2.1, kx_a g_allValue cyI 12 u.2.2.2.2.2.2.2.1, kx_a g_allNumber cyI 12 u.2.2.2.2.2.2.2.2.1, kx_a g_nodeL cyI 320 u.2.2.2.2.2.2.2.2.2.1, kx_a g_nodeR cyI 320 u.2.2.2.2.2.2.2.2.2.2.1, kx_a g_wasMany cyI 320 u.2.2.2.2.2.2.2.2.2.2.2.1, kx_a g_wasLoss cyI 320 u.2.2.2.2.2.2.2.2.2.2.2.2.1, kx_a g_wasValue cyI 1920 u.2.2.2.2.2.2.2.2.2.2.2.2.2.1, kx_a g_wasNumber cyI 1920 u.2.2.2.2.2.2.2.2.2.2.2.2.2.2.1]) A) := by
  refine kx_stQ (ws := wsX5_swap) (cc := cX5_swap) (maxL := 3) (ret := (some .int)) (by decide) rfl (Nat.le_of_ble_eq_true rfl) ?_
  intro p e s m below meth c A ls hx hb hr hlocks hts hown hml hA hS hP hK hD hl
  have hown : s.vm.findClass RX5 = some m.cls := hown
  have hl : lv_has ls 3 [(0, .ref h0), (1, .int p0), (2, .int p1)] := hl
  have hf_77 := hts (.fieldLink RX5 77 "MajorityIndexModel" "thrown" "I") (List.mem_of_getElem? (i := 1) rfl)
  have hi_5 : ∀ w ∈ u_ws RX5 TX5 30, w ∈ wsX5_swap := fun w h => List.mem_cons_of_mem _ (List.mem_append_right _ h)
  refine lv_aload_n hx hb dX5_swap_0 rfl (lv_at hl 0 rfl) ?_
  refine lv_iconst (v := 0) hx hb dX5_swap_1 (by decide) ?_
  refine va_put (D := (dC, dI)) (ci := 5) (v := .int 0) (ty := .int) (C := RX5) (T := TX5) (N := 30) hx hb hts hi_5 tyX5 tyX5_ok nmX5 hown hK hP hD hS 0 rfl rfl 3 (by decide) hf_77 (fun _ h9 => h9) rfl (by decide +kernel) rfl rfl (Nat.le_of_ble_eq_true rfl) dX5_swap_2 (fun H locs hP hD hS => ?_)
  obtain ⟨hP, hD⟩ := kx_re (w2 := [kx_5 h0 g_row m_n m_slots 0 g_many g_loss g_less g_voteValue g_voteNumber g_allValue g_allNumber m_allMany g_nodeL g_nodeR m_nodes g_part m_partMany g_wasMany g_wasLoss g_wasValue g_wasNumber g_path m_pathMany g_heavyValue g_heavyTimes m_heavyMany g_fewest g_which g_met m_mostMet, kx_a g_row cyI 160 f, kx_a g_many cyI 324 fm, kx_a g_loss cyI 324 fl, kx_a g_less cyI 324 fe, kx_a g_voteValue cyI 1944 vv, kx_a g_voteNumber cyI 1944 vn, kx_a g_allValue cyI 12 av, kx_a g_allNumber cyI 12 an, kx_a g_nodeL cyI 320 nl, kx_a g_nodeR cyI 320 nr, kx_a g_wasMany cyI 320 wm, kx_a g_wasLoss cyI 320 wl, kx_a g_wasValue cyI 1920 wv, kx_a g_wasNumber cyI 1920 wn]) hP hD rfl
  refine lv_aload_n hx hb dX5_swap_5 rfl (lv_at hl 0 rfl) ?_
  refine lv_iload_n hx hb dX5_swap_6 rfl (lv_at hl 1 rfl) ?_
  have hPc := hP.sub (ws' := [kx_5 h0 g_row m_n m_slots 0 g_many g_loss g_less g_voteValue g_voteNumber g_allValue g_allNumber m_allMany g_nodeL g_nodeR m_nodes g_part m_partMany g_wasMany g_wasLoss g_wasValue g_wasNumber g_path m_pathMany g_heavyValue g_heavyTimes m_heavyMany g_fewest g_which g_met m_mostMet]) [0] rfl
  have hKc := hK.sub (tys' := []) [] rfl
  refine vp_callSi (W.runV (As := [.int p0]) (rest := []) ⟨hx, hb, hml, hown, hts⟩ (c_X5_isPlace l dC dI h0 g_row g_many g_loss g_less g_voteValue g_voteNumber g_allValue g_allNumber g_nodeL g_nodeR g_part g_wasMany g_wasLoss g_wasValue g_wasNumber g_path g_heavyValue g_heavyTimes g_fewest g_which g_met m_n m_slots 0 m_allMany m_nodes m_partMany m_pathMany m_heavyMany m_mostMet p0 a0 a1) (cwV 1 hts gX5_swap_X5_isPlace rfl rfl rfl (by decide +kernel) ⟨Nat.le_of_ble_eq_true rfl, Nat.le_of_ble_eq_true rfl⟩) ⟨fun a U g mk q => by obtain ⟨q0, qP, qK⟩ := q; exact ⟨q0, qP, va_K.moved (u := U) (U := U.calling g mk a) (Vm.Alike.refl U.vm) qK⟩, kx_rc5 hKc hPc (q0 := 0) rfl, fun U hU hW => ⟨rfl, by rw [hU]; exact hPc, va_K.moved hW.alike hKc⟩⟩ rfl rfl hl.1 rfl (lv_room (Nat.le_of_ble_eq_true rfl)) dX5_swap_7 ⟨Nat.le_of_ble_eq_true rfl, Nat.le_of_ble_eq_true rfl⟩) (fun r_1 w_1 => ?_)
  rcases w_1 with ⟨rfl, w_1⟩ | ⟨rfl, w_1⟩
  · have w_1 : (0 ≤ p0.toInt ∧ p0.toInt < m_n.toInt) := w_1
    refine lv_if_eq (tgt := 21) hx hb dX5_swap_10 (by decide) (fun c_2 => ?_) (fun c_2 => ?_)
    · exact absurd c_2 (by decide)
    · refine lv_aload_n hx hb dX5_swap_13 rfl (lv_at hl 0 rfl) ?_
      refine lv_iload_n hx hb dX5_swap_14 rfl (lv_at hl 2 rfl) ?_
      have hPc := hP.sub (ws' := [kx_5 h0 g_row m_n m_slots 0 g_many g_loss g_less g_voteValue g_voteNumber g_allValue g_allNumber m_allMany g_nodeL g_nodeR m_nodes g_part m_partMany g_wasMany g_wasLoss g_wasValue g_wasNumber g_path m_pathMany g_heavyValue g_heavyTimes m_heavyMany g_fewest g_which g_met m_mostMet]) [0] rfl
      have hKc := hK.sub (tys' := []) [] rfl
      refine vp_callSi (W.runV (As := [.int p1]) (rest := []) ⟨hx, hb, hml, hown, hts⟩ (c_X5_isPlace l dC dI h0 g_row g_many g_loss g_less g_voteValue g_voteNumber g_allValue g_allNumber g_nodeL g_nodeR g_part g_wasMany g_wasLoss g_wasValue g_wasNumber g_path g_heavyValue g_heavyTimes g_fewest g_which g_met m_n m_slots 0 m_allMany m_nodes m_partMany m_pathMany m_heavyMany m_mostMet p1 a0 a1) (cwV 1 hts gX5_swap_X5_isPlace rfl rfl rfl (by decide +kernel) ⟨Nat.le_of_ble_eq_true rfl, Nat.le_of_ble_eq_true rfl⟩) ⟨fun a U g mk q => by obtain ⟨q0, qP, qK⟩ := q; exact ⟨q0, qP, va_K.moved (u := U) (U := U.calling g mk a) (Vm.Alike.refl U.vm) qK⟩, kx_rc5 hKc hPc (q0 := 0) rfl, fun U hU hW => ⟨rfl, by rw [hU]; exact hPc, va_K.moved hW.alike hKc⟩⟩ rfl rfl hl.1 rfl (lv_room (Nat.le_of_ble_eq_true rfl)) dX5_swap_15 ⟨Nat.le_of_ble_eq_true rfl, Nat.le_of_ble_eq_true rfl⟩) (fun r_3 w_3 => ?_)
      rcases w_3 with ⟨rfl, w_3⟩ | ⟨rfl, w_3⟩
      · have w_3 : (0 ≤ p1.toInt ∧ p1.toInt < m_n.toInt) := w_3
        refine lv_if_ne (tgt := 23) hx hb dX5_swap_18 (by decide) (fun c_4 => ?_) (fun c_4 => ?_)
        · refine lv_aload_n hx hb dX5_swap_23 rfl (lv_at hl 0 rfl) ?_
          have hPc := hP
          have hKc := hK
          have hDc := hD
          have hFc := kx_free hD hS hA
          refine va_callv (va_runV (As := []) (rest := []) ⟨hx, hb, hml, hown, hts⟩ (kx_un (c_X5_keeps l dC dI h0 g_row g_many g_loss g_less g_voteValue g_voteNumber g_allValue g_allNumber g_nodeL g_nodeR g_part g_wasMany g_wasLoss g_wasValue g_wasNumber g_path g_heavyValue g_heavyTimes g_fewest g_which g_met m_n m_slots 0 m_allMany m_nodes m_partMany m_pathMany m_heavyMany m_mostMet cyI fm fl fe vv vn f av an nl nr wm wl wv wn H.size a0 a1 sl0 sl1 s4)) (cwV 0 hts gX5_swap_X5_keeps rfl rfl rfl (by decide +kernel) ⟨Nat.le_of_ble_eq_true rfl, Nat.le_of_ble_eq_true rfl⟩) ⟨fun a U g mk q => by obtain ⟨q0, q1, qP, qK, qD⟩ := q; exact ⟨q0, q1, qP, va_K.moved (u := U) (U := U.calling g mk a) (Vm.Alike.refl U.vm) qK, qD⟩, kx_rc5 hKc hPc (q0 := 0) rfl, fun U hU hW => ⟨rfl, by rw [hU], by rw [hU]; exact hPc, va_K.moved hW.alike hKc, hDc.weaken (fun _ _ _ _ => trivial)⟩⟩ rfl rfl hl.1 rfl (lv_room (Nat.le_of_ble_eq_true rfl)) dX5_swap_24 ⟨Nat.le_of_ble_eq_true rfl, Nat.le_of_ble_eq_true rfl⟩) hS (fun q _ h => hFc q h) hFc (fun u t H1 locs ht hvm w_5 hB hz1 hk1 hS => ?_)
          obtain ⟨o_6, o_7, o_8, o_9, o_10, o_11, o_12, o_13, o_14, o_15, o_16, o_17, o_18, o_19, o_20⟩ := u
          dsimp only at w_5 hB
          obtain ⟨hP1, hK1, hD1⟩ := hB
          rw [ht] at hP1
          have hK1 := va_K.moved hvm.symm hK1
          have hD := hD1.weaken (fun _ q _ h => hFc q.1 h)
          have hP := hP1
          clear hP1 hD1 hK1 hk1 hz1 hFc hDc hPc hKc
          generalize H1 = H at hP hS ⊢
          have w_5 : six4 o_8 := w_5
          refine lv_aload_n hx hb dX5_swap_27 rfl (lv_at hl 0 rfl) ?_
          refine lv_iload_n hx hb dX5_swap_28 rfl (lv_at hl 1 rfl) ?_
          refine lv_iload_n hx hb dX5_swap_29 rfl (lv_at hl 2 rfl) ?_
          obtain ⟨hPc, hDc, hFc, hCc⟩ := kx_preM (wc := [kx_5 h0 g_row m_n m_slots 0 g_many g_loss g_less g_voteValue g_voteNumber g_allValue g_allNumber o_7 g_nodeL g_nodeR o_6 g_part m_partMany g_wasMany g_wasLoss g_wasValue g_wasNumber g_path m_pathMany g_heavyValue g_heavyTimes m_heavyMany g_fewest g_which g_met m_mostMet, kx_a g_row cyI 160 f]) hP hD hS hA [true, true, false, false, false, false, false, false, false, false, false, false, false, false, false] rfl
          have hKc := hK
          refine va_callv (va_runV (As := [.int p0, .int p1]) (rest := []) ⟨hx, hb, hml, hown, hts⟩ (kx_un (c_X5_exchanges l dC dI h0 g_row g_many g_loss g_less g_voteValue g_voteNumber g_allValue g_allNumber g_nodeL g_nodeR g_part g_wasMany g_wasLoss g_wasValue g_wasNumber g_path g_heavyValue g_heavyTimes g_fewest g_which g_met m_n m_slots 0 o_7 o_6 m_partMany m_pathMany m_heavyMany m_mostMet cyI f p0 p1 H.size (om_10 w_1.1) (om_143 a1 w_1.2) (om_10 w_3.1) (om_143 a1 w_3.2))) (cwV 2 hts gX5_swap_X5_exchanges rfl rfl rfl (by decide +kernel) ⟨Nat.le_of_ble_eq_true rfl, Nat.le_of_ble_eq_true rfl⟩) ⟨fun a U g mk q => by obtain ⟨q0, q1, qP, qK, qD⟩ := q; exact ⟨q0, q1, qP, va_K.moved (u := U) (U := U.calling g mk a) (Vm.Alike.refl U.vm) qK, qD⟩, kx_rc5 hKc hPc (q0 := 0) rfl, fun U hU hW => ⟨rfl, by rw [hU], by rw [hU]; exact hPc, va_K.moved hW.alike hKc, hDc.weaken (fun _ _ _ _ => trivial)⟩⟩ rfl rfl hl.1 rfl (lv_room (Nat.le_of_ble_eq_true rfl)) dX5_swap_30 ⟨Nat.le_of_ble_eq_true rfl, Nat.le_of_ble_eq_true rfl⟩) hS (fun q _ h => hFc q h) hFc (fun u t H1 locs ht hvm w_21 hB hz1 hk1 hS => ?_)
          obtain ⟨o_22, rfl⟩ : ∃ z, z = u := ⟨_, rfl⟩
          obtain ⟨hP1, hK1, hD1⟩ := hB
          rw [ht] at hP1
          have hK1 := va_K.moved hvm.symm hK1
          obtain ⟨hP, hD⟩ := kx_joinM (w2 := [kx_5 h0 g_row m_n m_slots 0 g_many g_loss g_less g_voteValue g_voteNumber g_allValue g_allNumber o_7 g_nodeL g_nodeR o_6 g_part m_partMany g_wasMany g_wasLoss g_wasValue g_wasNumber g_path m_pathMany g_heavyValue g_heavyTimes m_heavyMany g_fewest g_which g_met m_mostMet, kx_a g_row cyI 160 o_22, kx_a g_many cyI 324 o_8, kx_a g_loss cyI 324 o_9, kx_a g_less cyI 324 o_10, kx_a g_voteValue cyI 1944 o_11, kx_a g_voteNumber cyI 1944 o_12, kx_a g_allValue cyI 12 o_13, kx_a g_allNumber cyI 12 o_14, kx_a g_nodeL cyI 320 o_15, kx_a g_nodeR cyI 320 o_16, kx_a g_wasMany cyI 320 o_17, kx_a g_wasLoss cyI 320 o_18, kx_a g_wasValue cyI 1920 o_19, kx_a g_wasNumber cyI 1920 o_20]) hP hD hP1 hD1 hk1 hFc [true, true, false, false, false, false, false, false, false, false, false, false, false, false, false] hCc rfl
          clear hP1 hD1 hK1 hk1 hz1 hFc hDc hPc hKc hCc
          generalize H1 = H at hP hS ⊢
          have w_21 : o_22 = mj_ex f p0.toNatClampNeg p1.toNatClampNeg := w_21
          refine lv_aload_n hx hb dX5_swap_33 rfl (lv_at hl 0 rfl) ?_
          have hPc := hP
          have hKc := hK
          have hDc := hD
          have hFc := kx_free hD hS hA
          refine va_calli (va_runV (As := []) (rest := []) ⟨hx, hb, hml, hown, hts⟩ (kx_un (c_X5_others l dC dI h0 g_row g_many g_loss g_less g_voteValue g_voteNumber g_allValue g_allNumber g_nodeL g_nodeR g_part g_wasMany g_wasLoss g_wasValue g_wasNumber g_path g_heavyValue g_heavyTimes g_fewest g_which g_met m_n m_slots 0 o_7 o_6 m_partMany m_pathMany m_heavyMany m_mostMet cyI o_8 o_9 o_10 o_11 o_12 o_22 o_13 o_14 o_15 o_16 o_17 o_18 o_19 o_20 H.size a0 a1 sl0 sl1 w_5)) (cwV 0 hts gX5_swap_X5_others rfl rfl rfl (by decide +kernel) ⟨Nat.le_of_ble_eq_true rfl, Nat.le_of_ble_eq_true rfl⟩) ⟨fun a U g mk q => by obtain ⟨q0, q1, qP, qK, qD⟩ := q; exact ⟨q0, q1, qP, va_K.moved (u := U) (U := U.calling g mk a) (Vm.Alike.refl U.vm) qK, qD⟩, kx_rc5 hKc hPc (q0 := 0) rfl, fun U hU hW => ⟨rfl, by rw [hU], by rw [hU]; exact hPc, va_K.moved hW.alike hKc, hDc.weaken (fun _ _ _ _ => trivial)⟩⟩ rfl rfl hl.1 rfl (lv_room (Nat.le_of_ble_eq_true rfl)) dX5_swap_34 ⟨Nat.le_of_ble_eq_true rfl, Nat.le_of_ble_eq_true rfl⟩) hS (fun q _ h => hFc q h) hFc (fun r_23 u t H1 locs ht hvm w_23 hB hz1 hk1 hS => ?_)
          obtain ⟨o_24, o_25, o_26, o_27, o_28, o_29, o_30, o_31, o_32, o_33, o_34⟩ := u
          dsimp only at w_23 hB
          obtain ⟨hP1, hK1, hD1⟩ := hB
          rw [ht] at hP1
          have hK1 := va_K.moved hvm.symm hK1
          have hD := hD1.weaken (fun _ q _ h => hFc q.1 h)
          have hP := hP1
          clear hP1 hD1 hK1 hk1 hz1 hFc hDc hPc hKc
          generalize H1 = H at hP hS ⊢
          have w_23 : six4 o_26 := w_23
          have hP9 := hP
          have hD9 := hD
          have hK9 := hK
          have n_p0 := ki_nat p0 rfl (om_10 w_1.1)
          have n_p1 := ki_nat p1 rfl (om_10 w_3.1)
          exact W.iret (v := r_23) hx hb hr (hlocks := hlocks) (fun t ht hW => ⟨⟨r_23, (o_24, o_25, o_26, o_27, o_28, o_29, o_30, o_31, o_32, o_33, o_34, o_17, o_18, o_19, o_20, o_22), rfl, ⟨Or.inl ⟨by omega, w_21⟩, (by (try dsimp only); rw [w_21]; exact shorts_mex s1 (by omega) (by omega)), w_23⟩, by rw [ht]; exact hP9, va_K.moved hW.alike hK9, hD9⟩, hS.F ht⟩) hS.2.2 dX5_swap_37
        · exact absurd c_4 (by decide)
      · have w_3 : (p1.toInt < 0 ∨ m_n.toInt ≤ p1.toInt) := w_3
        refine lv_if_ne (tgt := 23) hx hb dX5_swap_18 (by decide) (fun c_35 => ?_) (fun c_35 => ?_)
        · exact absurd c_35 (by decide)
        · refine lv_iconst (v := (-1)) hx hb dX5_swap_21 (by decide) ?_
          have hP9 := hP
          have hD9 := hD
          have hK9 := hK
          exact W.iret (v := (-1)) hx hb hr (hlocks := hlocks) (fun t ht hW => ⟨⟨(-1), (m_nodes, m_allMany, fm, fl, fe, vv, vn, av, an, nl, nr, wm, wl, wv, wn, f), rfl, ⟨Or.inr ⟨by omega, rfl, rfl⟩, s1, s4⟩, by rw [ht]; exact hP9, va_K.moved hW.alike hK9, hD9⟩, hS.F ht⟩) hS.2.2 dX5_swap_22
  · have w_1 : (p0.toInt < 0 ∨ m_n.toInt ≤ p0.toInt) := w_1
    refine lv_if_eq (tgt := 21) hx hb dX5_swap_10 (by decide) (fun c_36 => ?_) (fun c_36 => ?_)
    · refine lv_iconst (v := (-1)) hx hb dX5_swap_21 (by decide) ?_
      have hP9 := hP
      have hD9 := hD
      have hK9 := hK
      exact W.iret (v := (-1)) hx hb hr (hlocks := hlocks) (fun t ht hW => ⟨⟨(-1), (m_nodes, m_allMany, fm, fl, fe, vv, vn, av, an, nl, nr, wm, wl, wv, wn, f), rfl, ⟨Or.inr ⟨by omega, rfl, rfl⟩, s1, s4⟩, by rw [ht]; exact hP9, va_K.moved hW.alike hK9, hD9⟩, hS.F ht⟩) hS.2.2 dX5_swap_22
    · exact absurd c_36 (by decide)



abbrev cX5_reach : ByteArray := prog_7_method_66_code
def yX5_reach : MethodName := ⟨RX5, "reach", "(I)I"⟩
abbrev cX5_spares : ByteArray := prog_7_method_77_code
def yX5_spares : MethodName := ⟨RX5, "spares", "(IIIII)I"⟩
abbrev cX5_swings : ByteArray := prog_7_method_79_code
def yX5_swings : MethodName := ⟨RX5, "swings", "(IIII)I"⟩
abbrev cX5_deep : ByteArray := prog_7_method_80_code
def yX5_deep : MethodName := ⟨RX5, "deep", "(II)I"⟩
abbrev cX5_nodesWithMajority : ByteArray := prog_7_method_81_code
def yX5_nodesWithMajority : MethodName := ⟨RX5, "nodesWithMajority", "()I"⟩
abbrev cX5_told : ByteArray := prog_7_method_82_code
def yX5_told : MethodName := ⟨RX5, "told", "(I)I"⟩
def wsX5_reach : List Cond := .code yX5_reach cX5_reach 3 (some .int) :: ([.fieldLink RX5 77 "MajorityIndexModel" "thrown" "I", .fieldLink RX5 84 "MajorityIndexModel" "n" "I", .constant RX5 148 (-40000), .methodLink RX5 128 yX5_isPlace, .instanceMethod yX5_isPlace, .selects RX5 yX5_isPlace yX5_isPlace, .initialized RX5, .code yX5_isPlace cX5_isPlace 2 (some .boolean), .methodLink RX5 80 yX5_within, .static yX5_within, .code yX5_within cX5_within 3 (some .boolean), .methodLink RX5 194 yX5_majorityOf, .instanceMethod yX5_majorityOf, .selects RX5 yX5_majorityOf yX5_majorityOf, .code yX5_majorityOf cX5_majorityOf 4 (some .int), .fieldLink RX5 7 "MajorityIndexModel" "row" "[I", .methodLink RX5 149 yX5_times, .instanceMethod yX5_times, .selects RX5 yX5_times yX5_times, .code yX5_times cX5_times 6 (some .int)] ++ wsX50)
def wsX5_spares : List Cond := .code yX5_spares cX5_spares 8 (some .int) :: ([.fieldLink RX5 77 "MajorityIndexModel" "thrown" "I", .methodLink RX5 132 yX5_isValue, .static yX5_isValue, .initialized RX5, .code yX5_isValue cX5_isValue 1 (some .boolean), .methodLink RX5 80 yX5_within, .static yX5_within, .code yX5_within cX5_within 3 (some .boolean), .methodLink RX5 142 yX5_isRange, .instanceMethod yX5_isRange, .selects RX5 yX5_isRange yX5_isRange, .code yX5_isRange cX5_isRange 3 (some .boolean), .fieldLink RX5 84 "MajorityIndexModel" "n" "I", .methodLink RX5 184 yX5_isShare, .static yX5_isShare, .code yX5_isShare cX5_isShare 2 (some .boolean), .methodLink RX5 149 yX5_times, .instanceMethod yX5_times, .selects RX5 yX5_times yX5_times, .code yX5_times cX5_times 6 (some .int), .fieldLink RX5 7 "MajorityIndexModel" "row" "[I"] ++ wsX50)
def wsX5_swings_r1 : List Cond := [Cond.fieldLink RX5 77 "MajorityIndexModel" "thrown" "I", Cond.fieldLink RX5 7 "MajorityIndexModel" "row" "[I", Cond.fieldLink RX5 13 "MajorityIndexModel" "slots" "I", Cond.methodLink RX5 142 yX5_isRange, Cond.instanceMethod yX5_isRange, Cond.selects RX5 yX5_isRange yX5_isRange, Cond.initialized RX5, Cond.code yX5_isRange cX5_isRange 3 (some .boolean), Cond.fieldLink RX5 84 "MajorityIndexModel" "n" "I", Cond.methodLink RX5 132 yX5_isValue, Cond.static yX5_isValue, Cond.code yX5_isValue cX5_isValue 1 (some .boolean), Cond.methodLink RX5 80 yX5_within, Cond.static yX5_within, Cond.code yX5_within cX5_within 3 (some .boolean), Cond.methodLink RX5 124 yX5_laysAll, Cond.instanceMethod yX5_laysAll, Cond.selects RX5 yX5_laysAll yX5_laysAll, Cond.code yX5_laysAll cX5_laysAll 2 none, Cond.fieldLink RX5 101 "MajorityIndexModel" "nodes" "I", Cond.methodLink RX5 107 yX5_lays, Cond.instanceMethod yX5_lays, Cond.selects RX5 yX5_lays yX5_lays, Cond.code yX5_lays cX5_lays 8 (some .int)]
def wsX5_swings_r2 : List Cond := [Cond.fieldLink RX5 38 "MajorityIndexModel" "nodeL" "[I", Cond.fieldLink RX5 41 "MajorityIndexModel" "nodeR" "[I", Cond.methodLink RX5 104 yX5_one, Cond.instanceMethod yX5_one, Cond.selects RX5 yX5_one yX5_one, Cond.code yX5_one cX5_one 3 none, Cond.fieldLink RX5 17 "MajorityIndexModel" "many" "[I", Cond.fieldLink RX5 20 "MajorityIndexModel" "loss" "[I", Cond.fieldLink RX5 23 "MajorityIndexModel" "less" "[I", Cond.fieldLink RX5 26 "MajorityIndexModel" "voteValue" "[I", Cond.fieldLink RX5 29 "MajorityIndexModel" "voteNumber" "[I", Cond.methodLink RX5 111 yX5_together, Cond.instanceMethod yX5_together, Cond.selects RX5 yX5_together yX5_together, Cond.code yX5_together cX5_together 9 none, Cond.fieldLink RX5 87 "MajorityIndexModel" "allMany" "I", Cond.fieldLink RX5 35 "MajorityIndexModel" "allNumber" "[I", Cond.fieldLink RX5 32 "MajorityIndexModel" "allValue" "[I", Cond.methodLink RX5 94 yX5_adds, Cond.instanceMethod yX5_adds, Cond.selects RX5 yX5_adds yX5_adds, Cond.code yX5_adds cX5_adds 4 none, Cond.methodLink RX5 98 yX5_sorts, Cond.instanceMethod yX5_sorts]
def wsX5_swings_r3 : List Cond := [Cond.selects RX5 yX5_sorts yX5_sorts, Cond.code yX5_sorts cX5_sorts 4 none, Cond.methodLink RX5 90 yX5_isAhead, Cond.instanceMethod yX5_isAhead, Cond.selects RX5 yX5_isAhead yX5_isAhead, Cond.code yX5_isAhead cX5_isAhead 3 (some .boolean), Cond.methodLink RX5 174 yX5_numbersOf, Cond.instanceMethod yX5_numbersOf, Cond.selects RX5 yX5_numbersOf yX5_numbersOf, Cond.code yX5_numbersOf cX5_numbersOf 4 (some .int)]
def wsX5_swings : List Cond := .code yX5_swings cX5_swings 10 (some .int) :: ((wsX5_swings_r1 ++ (wsX5_swings_r2 ++ wsX5_swings_r3)) ++ wsX50)
def wsX5_deep : List Cond := .code yX5_deep cX5_deep 6 (some .int) :: ([.methodLink RX5 220 yX5_deep, .instanceMethod yX5_deep, .selects RX5 yX5_deep yX5_deep, .initialized RX5])
def wsX5_nodesWithMajority : List Cond := .code yX5_nodesWithMajority cX5_nodesWithMajority 3 (some .int) :: ([.fieldLink RX5 101 "MajorityIndexModel" "nodes" "I", .fieldLink RX5 38 "MajorityIndexModel" "nodeL" "[I", .fieldLink RX5 41 "MajorityIndexModel" "nodeR" "[I", .constant RX5 148 (-40000), .methodLink RX5 194 yX5_majorityOf, .instanceMethod yX5_majorityOf, .selects RX5 yX5_majorityOf yX5_majorityOf, .initialized RX5, .code yX5_majorityOf cX5_majorityOf 4 (some .int), .fieldLink RX5 7 "MajorityIndexModel" "row" "[I", .methodLink RX5 149 yX5_times, .instanceMethod yX5_times, .selects RX5 yX5_times yX5_times, .code yX5_times cX5_times 6 (some .int)] ++ wsX50)
def wsX5_told_r1 : List Cond := [Cond.fieldLink RX5 77 "MajorityIndexModel" "thrown" "I", Cond.fieldLink RX5 13 "MajorityIndexModel" "slots" "I", Cond.fieldLink RX5 84 "MajorityIndexModel" "n" "I", Cond.fieldLink RX5 101 "MajorityIndexModel" "nodes" "I", Cond.fieldLink RX5 20 "MajorityIndexModel" "loss" "[I", Cond.methodLink RX5 124 yX5_laysAll, Cond.instanceMethod yX5_laysAll, Cond.selects RX5 yX5_laysAll yX5_laysAll, Cond.initialized RX5, Cond.code yX5_laysAll cX5_laysAll 2 none, Cond.methodLink RX5 107 yX5_lays, Cond.instanceMethod yX5_lays, Cond.selects RX5 yX5_lays yX5_lays, Cond.code yX5_lays cX5_lays 8 (some .int), Cond.fieldLink RX5 38 "MajorityIndexModel" "nodeL" "[I", Cond.fieldLink RX5 41 "MajorityIndexModel" "nodeR" "[I", Cond.fieldLink RX5 7 "MajorityIndexModel" "row" "[I", Cond.methodLink RX5 104 yX5_one, Cond.instanceMethod yX5_one, Cond.selects RX5 yX5_one yX5_one, Cond.code yX5_one cX5_one 3 none, Cond.fieldLink RX5 17 "MajorityIndexModel" "many" "[I", Cond.fieldLink RX5 23 "MajorityIndexModel" "less" "[I", Cond.fieldLink RX5 26 "MajorityIndexModel" "voteValue" "[I"]
def wsX5_told_r2 : List Cond := [Cond.fieldLink RX5 29 "MajorityIndexModel" "voteNumber" "[I", Cond.methodLink RX5 111 yX5_together, Cond.instanceMethod yX5_together, Cond.selects RX5 yX5_together yX5_together, Cond.code yX5_together cX5_together 9 none, Cond.fieldLink RX5 87 "MajorityIndexModel" "allMany" "I", Cond.fieldLink RX5 35 "MajorityIndexModel" "allNumber" "[I", Cond.fieldLink RX5 32 "MajorityIndexModel" "allValue" "[I", Cond.methodLink RX5 94 yX5_adds, Cond.instanceMethod yX5_adds, Cond.selects RX5 yX5_adds yX5_adds, Cond.code yX5_adds cX5_adds 4 none, Cond.methodLink RX5 98 yX5_sorts, Cond.instanceMethod yX5_sorts, Cond.selects RX5 yX5_sorts yX5_sorts, Cond.code yX5_sorts cX5_sorts 4 none, Cond.methodLink RX5 90 yX5_isAhead, Cond.instanceMethod yX5_isAhead, Cond.selects RX5 yX5_isAhead yX5_isAhead, Cond.code yX5_isAhead cX5_isAhead 3 (some .boolean), Cond.methodLink RX5 223 yX5_nodesWithMajority, Cond.instanceMethod yX5_nodesWithMajority, Cond.selects RX5 yX5_nodesWithMajority yX5_nodesWithMajority, Cond.code yX5_nodesWithMajority cX5_nodesWithMajority 3 (some .int)]
def wsX5_told_r3 : List Cond := [Cond.constant RX5 148 (-40000), Cond.methodLink RX5 194 yX5_majorityOf, Cond.instanceMethod yX5_majorityOf, Cond.selects RX5 yX5_majorityOf yX5_majorityOf, Cond.code yX5_majorityOf cX5_majorityOf 4 (some .int), Cond.methodLink RX5 149 yX5_times, Cond.instanceMethod yX5_times, Cond.selects RX5 yX5_times yX5_times, Cond.code yX5_times cX5_times 6 (some .int), Cond.methodLink RX5 220 yX5_deep, Cond.instanceMethod yX5_deep, Cond.selects RX5 yX5_deep yX5_deep, Cond.code yX5_deep cX5_deep 6 (some .int)]
def wsX5_told : List Cond := .code yX5_told cX5_told 4 (some .int) :: ((wsX5_told_r1 ++ (wsX5_told_r2 ++ wsX5_told_r3)) ++ wsX50)
set_option maxRecDepth 20000 in
theorem ggX5_reach_X5_isPlace : GoodIn wsX5_reach wsX5_isPlace := goodIn_r _ [8, 2, 9, 10, 7, 11, 21, 22, 23, 24, 25, 26, 27, 28, 29, 30, 31, 32, 33, 34, 35, 36, 37, 38, 39, 40, 41, 42, 43, 44, 45, 46, 47, 48, 49, 50] rfl (by decide +kernel)
set_option maxRecDepth 20000 in
theorem gX5_reach_X5_isPlace : GoodIn wsX5_reach (wsV RX5 128 RX5 yX5_isPlace wsX5_isPlace) := goodIn_app (goodIn_r _ [4, 5, 6, 7] rfl (by decide +kernel)) ggX5_reach_X5_isPlace
set_option maxRecDepth 20000 in
theorem ggX5_reach_X5_majorityOf : GoodIn wsX5_reach wsX5_majorityOf := goodIn_r _ [15, 16, 3, 17, 18, 19, 7, 20, 21, 22, 23, 24, 25, 26, 27, 28, 29, 30, 31, 32, 33, 34, 35, 36, 37, 38, 39, 40, 41, 42, 43, 44, 45, 46, 47, 48, 49, 50] rfl (by decide +kernel)
set_option maxRecDepth 20000 in
theorem gX5_reach_X5_majorityOf : GoodIn wsX5_reach (wsV RX5 194 RX5 yX5_majorityOf wsX5_majorityOf) := goodIn_app (goodIn_r _ [12, 13, 14, 7] rfl (by decide +kernel)) ggX5_reach_X5_majorityOf
def dt_cX5_reach_0 : List (Nat × Nat × Nat × Nat) := [(0, 42, 0, 0), (1, 3, 0, 0), (2, 181, 2, 77), (5, 42, 0, 0), (6, 27, 0, 0), (7, 182, 2, 128), (10, 154, 2, 5), (13, 2, 0, 0), (14, 172, 0, 0), (15, 42, 0, 0), (16, 180, 2, 84), (19, 61, 0, 0), (20, 42, 0, 0), (21, 27, 0, 0), (22, 28, 0, 0), (23, 182, 2, 194), (26, 18, 1, 148), (28, 160, 2, 9), (31, 132, 2, 767), (34, 167, 2, 65522)]
theorem da_cX5_reach_0 : fw dt_cX5_reach_0 0 cX5_reach.data.toList = true := by decide +kernel
theorem dX5_reach_0 : decode cX5_reach 0 = .ok (.aload_n 0, 1) := fo_42 (fw_get da_cX5_reach_0 0 rfl)
theorem dX5_reach_1 : decode cX5_reach 1 = .ok (.iconst 0, 1) := fo_3 (fw_get da_cX5_reach_0 1 rfl)
theorem dX5_reach_2 : decode cX5_reach 2 = .ok (.putfield 77, 3) := fo_181 (fw_get da_cX5_reach_0 2 rfl)
theorem dX5_reach_5 : decode cX5_reach 5 = .ok (.aload_n 0, 1) := fo_42 (fw_get da_cX5_reach_0 3 rfl)
theorem dX5_reach_6 : decode cX5_reach 6 = .ok (.iload_n 1, 1) := fo_27 (fw_get da_cX5_reach_0 4 rfl)
theorem dX5_reach_7 : decode cX5_reach 7 = .ok (.invokevirtual 128, 3) := fo_182 (fw_get da_cX5_reach_0 5 rfl)
theorem dX5_reach_10 : decode cX5_reach 10 = .ok (.ifCond .ne 5, 3) := fo_154 (fw_get da_cX5_reach_0 6 rfl) (by decide +kernel)
theorem dX5_reach_13 : decode cX5_reach 13 = .ok (.iconst (-1), 1) := fo_2 (fw_get da_cX5_reach_0 7 rfl)
theorem dX5_reach_14 : decode cX5_reach 14 = .ok (.ireturn, 1) := fo_172 (fw_get da_cX5_reach_0 8 rfl)
theorem dX5_reach_15 : decode cX5_reach 15 = .ok (.aload_n 0, 1) := fo_42 (fw_get da_cX5_reach_0 9 rfl)
theorem dX5_reach_16 : decode cX5_reach 16 = .ok (.getfield 84, 3) := fo_180 (fw_get da_cX5_reach_0 10 rfl)
theorem dX5_reach_19 : decode cX5_reach 19 = .ok (.istore_n 2, 1) := fo_61 (fw_get da_cX5_reach_0 11 rfl)
theorem dX5_reach_20 : decode cX5_reach 20 = .ok (.aload_n 0, 1) := fo_42 (fw_get da_cX5_reach_0 12 rfl)
theorem dX5_reach_21 : decode cX5_reach 21 = .ok (.iload_n 1, 1) := fo_27 (fw_get da_cX5_reach_0 13 rfl)
theorem dX5_reach_22 : decode cX5_reach 22 = .ok (.iload_n 2, 1) := fo_28 (fw_get da_cX5_reach_0 14 rfl)
theorem dX5_reach_23 : decode cX5_reach 23 = .ok (.invokevirtual 194, 3) := fo_182 (fw_get da_cX5_reach_0 15 rfl)
theorem dX5_reach_26 : decode cX5_reach 26 = .ok (.ldc 148, 2) := fo_18 (fw_get da_cX5_reach_0 16 rfl)
theorem dX5_reach_28 : decode cX5_reach 28 = .ok (.if_icmp .ne 9, 3) := fo_160 (fw_get da_cX5_reach_0 17 rfl) (by decide +kernel)
theorem dX5_reach_31 : decode cX5_reach 31 = .ok (.iinc 2 (-1), 3) := fo_132 (fw_get da_cX5_reach_0 18 rfl) rfl (by decide +kernel)
theorem dX5_reach_34 : decode cX5_reach 34 = .ok (.goto (-14), 3) := fo_167 (fw_get da_cX5_reach_0 19 rfl) (by decide +kernel)
def dt_cX5_reach_1 : List (Nat × Nat × Nat × Nat) := [(37, 28, 0, 0), (38, 172, 0, 0)]
theorem da_cX5_reach_1 : fw dt_cX5_reach_1 0 cX5_reach.data.toList = true := by decide +kernel
theorem dX5_reach_37 : decode cX5_reach 37 = .ok (.iload_n 2, 1) := fo_28 (fw_get da_cX5_reach_1 0 rfl)
theorem dX5_reach_38 : decode cX5_reach 38 = .ok (.ireturn, 1) := fo_172 (fw_get da_cX5_reach_1 1 rfl)
set_option maxRecDepth 20000 in
theorem ggX5_spares_X5_isValue : GoodIn wsX5_spares wsX5_isValue := goodIn_r _ [5, 6, 7, 4, 8] rfl (by decide +kernel)
set_option maxRecDepth 20000 in
theorem gX5_spares_X5_isValue : GoodIn wsX5_spares (va_wsS RX5 132 yX5_isValue wsX5_isValue) := goodIn_app (goodIn_r _ [2, 3, 4] rfl (by decide +kernel)) ggX5_spares_X5_isValue
set_option maxRecDepth 20000 in
theorem ggX5_spares_X5_isRange : GoodIn wsX5_spares wsX5_isRange := goodIn_r _ [12, 13, 22, 23, 24, 25, 26, 27, 28, 29, 30, 31, 32, 33, 34, 35, 36, 37, 38, 39, 40, 41, 42, 43, 44, 45, 46, 47, 48, 49, 50, 51] rfl (by decide +kernel)
set_option maxRecDepth 20000 in
theorem gX5_spares_X5_isRange : GoodIn wsX5_spares (wsV RX5 142 RX5 yX5_isRange wsX5_isRange) := goodIn_app (goodIn_r _ [9, 10, 11, 4] rfl (by decide +kernel)) ggX5_spares_X5_isRange
set_option maxRecDepth 20000 in
theorem ggX5_spares_X5_isShare : GoodIn wsX5_spares wsX5_isShare := goodIn_r _ [16, 6, 7, 4, 8] rfl (by decide +kernel)
set_option maxRecDepth 20000 in
theorem gX5_spares_X5_isShare : GoodIn wsX5_spares (va_wsS RX5 184 yX5_isShare wsX5_isShare) := goodIn_app (goodIn_r _ [14, 15, 4] rfl (by decide +kernel)) ggX5_spares_X5_isShare
set_option maxRecDepth 20000 in
theorem ggX5_spares_X5_times : GoodIn wsX5_spares wsX5_times := goodIn_r _ [20, 21, 22, 23, 24, 25, 26, 27, 28, 29, 30, 31, 32, 33, 34, 35, 36, 37, 38, 39, 40, 41, 42, 43, 44, 45, 46, 47, 48, 49, 50, 51] rfl (by decide +kernel)
set_option maxRecDepth 20000 in
theorem gX5_spares_X5_times : GoodIn wsX5_spares (wsV RX5 149 RX5 yX5_times wsX5_times) := goodIn_app (goodIn_r _ [17, 18, 19, 4] rfl (by decide +kernel)) ggX5_spares_X5_times
def dt_cX5_spares_0 : List (Nat × Nat × Nat × Nat) := [(0, 42, 0, 0), (1, 3, 0, 0), (2, 181, 2, 77), (5, 27, 0, 0), (6, 184, 2, 132), (9, 153, 2, 22), (12, 42, 0, 0), (13, 28, 0, 0), (14, 29, 0, 0), (15, 182, 2, 142), (18, 153, 2, 13), (21, 21, 1, 4), (23, 21, 1, 5), (25, 184, 2, 184), (28, 154, 2, 5), (31, 2, 0, 0), (32, 172, 0, 0), (33, 42, 0, 0), (34, 27, 0, 0), (35, 28, 0, 0)]
theorem da_cX5_spares_0 : fw dt_cX5_spares_0 0 cX5_spares.data.toList = true := by decide +kernel
theorem dX5_spares_0 : decode cX5_spares 0 = .ok (.aload_n 0, 1) := fo_42 (fw_get da_cX5_spares_0 0 rfl)
theorem dX5_spares_1 : decode cX5_spares 1 = .ok (.iconst 0, 1) := fo_3 (fw_get da_cX5_spares_0 1 rfl)
theorem dX5_spares_2 : decode cX5_spares 2 = .ok (.putfield 77, 3) := fo_181 (fw_get da_cX5_spares_0 2 rfl)
theorem dX5_spares_5 : decode cX5_spares 5 = .ok (.iload_n 1, 1) := fo_27 (fw_get da_cX5_spares_0 3 rfl)
theorem dX5_spares_6 : decode cX5_spares 6 = .ok (.invokestatic 132, 3) := fo_184 (fw_get da_cX5_spares_0 4 rfl)
theorem dX5_spares_9 : decode cX5_spares 9 = .ok (.ifCond .eq 22, 3) := fo_153 (fw_get da_cX5_spares_0 5 rfl) (by decide +kernel)
theorem dX5_spares_12 : decode cX5_spares 12 = .ok (.aload_n 0, 1) := fo_42 (fw_get da_cX5_spares_0 6 rfl)
theorem dX5_spares_13 : decode cX5_spares 13 = .ok (.iload_n 2, 1) := fo_28 (fw_get da_cX5_spares_0 7 rfl)
theorem dX5_spares_14 : decode cX5_spares 14 = .ok (.iload_n 3, 1) := fo_29 (fw_get da_cX5_spares_0 8 rfl)
theorem dX5_spares_15 : decode cX5_spares 15 = .ok (.invokevirtual 142, 3) := fo_182 (fw_get da_cX5_spares_0 9 rfl)
theorem dX5_spares_18 : decode cX5_spares 18 = .ok (.ifCond .eq 13, 3) := fo_153 (fw_get da_cX5_spares_0 10 rfl) (by decide +kernel)
theorem dX5_spares_21 : decode cX5_spares 21 = .ok (.iload 4, 2) := fo_21 (fw_get da_cX5_spares_0 11 rfl)
theorem dX5_spares_23 : decode cX5_spares 23 = .ok (.iload 5, 2) := fo_21 (fw_get da_cX5_spares_0 12 rfl)
theorem dX5_spares_25 : decode cX5_spares 25 = .ok (.invokestatic 184, 3) := fo_184 (fw_get da_cX5_spares_0 13 rfl)
theorem dX5_spares_28 : decode cX5_spares 28 = .ok (.ifCond .ne 5, 3) := fo_154 (fw_get da_cX5_spares_0 14 rfl) (by decide +kernel)
theorem dX5_spares_31 : decode cX5_spares 31 = .ok (.iconst (-1), 1) := fo_2 (fw_get da_cX5_spares_0 15 rfl)
theorem dX5_spares_32 : decode cX5_spares 32 = .ok (.ireturn, 1) := fo_172 (fw_get da_cX5_spares_0 16 rfl)
theorem dX5_spares_33 : decode cX5_spares 33 = .ok (.aload_n 0, 1) := fo_42 (fw_get da_cX5_spares_0 17 rfl)
theorem dX5_spares_34 : decode cX5_spares 34 = .ok (.iload_n 1, 1) := fo_27 (fw_get da_cX5_spares_0 18 rfl)
theorem dX5_spares_35 : decode cX5_spares 35 = .ok (.iload_n 2, 1) := fo_28 (fw_get da_cX5_spares_0 19 rfl)
def dt_cX5_spares_1 : List (Nat × Nat × Nat × Nat) := [(36, 29, 0, 0), (37, 182, 2, 149), (40, 54, 1, 6), (42, 3, 0, 0), (43, 54, 1, 7), (45, 21, 1, 6), (47, 21, 1, 7), (49, 100, 0, 0), (50, 21, 1, 5), (52, 104, 0, 0), (53, 21, 1, 4), (55, 29, 0, 0), (56, 28, 0, 0), (57, 100, 0, 0), (58, 104, 0, 0), (59, 164, 2, 9), (62, 132, 2, 1793), (65, 167, 2, 65516), (68, 21, 1, 7), (70, 172, 0, 0)]
theorem da_cX5_spares_1 : fw dt_cX5_spares_1 0 cX5_spares.data.toList = true := by decide +kernel
theorem dX5_spares_36 : decode cX5_spares 36 = .ok (.iload_n 3, 1) := fo_29 (fw_get da_cX5_spares_1 0 rfl)
theorem dX5_spares_37 : decode cX5_spares 37 = .ok (.invokevirtual 149, 3) := fo_182 (fw_get da_cX5_spares_1 1 rfl)
theorem dX5_spares_40 : decode cX5_spares 40 = .ok (.istore 6, 2) := fo_54 (fw_get da_cX5_spares_1 2 rfl)
theorem dX5_spares_42 : decode cX5_spares 42 = .ok (.iconst 0, 1) := fo_3 (fw_get da_cX5_spares_1 3 rfl)
theorem dX5_spares_43 : decode cX5_spares 43 = .ok (.istore 7, 2) := fo_54 (fw_get da_cX5_spares_1 4 rfl)
theorem dX5_spares_45 : decode cX5_spares 45 = .ok (.iload 6, 2) := fo_21 (fw_get da_cX5_spares_1 5 rfl)
theorem dX5_spares_47 : decode cX5_spares 47 = .ok (.iload 7, 2) := fo_21 (fw_get da_cX5_spares_1 6 rfl)
theorem dX5_spares_49 : decode cX5_spares 49 = .ok (.isub, 1) := fo_100 (fw_get da_cX5_spares_1 7 rfl)
theorem dX5_spares_50 : decode cX5_spares 50 = .ok (.iload 5, 2) := fo_21 (fw_get da_cX5_spares_1 8 rfl)
theorem dX5_spares_52 : decode cX5_spares 52 = .ok (.imul, 1) := fo_104 (fw_get da_cX5_spares_1 9 rfl)
theorem dX5_spares_53 : decode cX5_spares 53 = .ok (.iload 4, 2) := fo_21 (fw_get da_cX5_spares_1 10 rfl)
theorem dX5_spares_55 : decode cX5_spares 55 = .ok (.iload_n 3, 1) := fo_29 (fw_get da_cX5_spares_1 11 rfl)
theorem dX5_spares_56 : decode cX5_spares 56 = .ok (.iload_n 2, 1) := fo_28 (fw_get da_cX5_spares_1 12 rfl)
theorem dX5_spares_57 : decode cX5_spares 57 = .ok (.isub, 1) := fo_100 (fw_get da_cX5_spares_1 13 rfl)
theorem dX5_spares_58 : decode cX5_spares 58 = .ok (.imul, 1) := fo_104 (fw_get da_cX5_spares_1 14 rfl)
theorem dX5_spares_59 : decode cX5_spares 59 = .ok (.if_icmp .le 9, 3) := fo_164 (fw_get da_cX5_spares_1 15 rfl) (by decide +kernel)
theorem dX5_spares_62 : decode cX5_spares 62 = .ok (.iinc 7 1, 3) := fo_132 (fw_get da_cX5_spares_1 16 rfl) rfl (by decide +kernel)
theorem dX5_spares_65 : decode cX5_spares 65 = .ok (.goto (-20), 3) := fo_167 (fw_get da_cX5_spares_1 17 rfl) (by decide +kernel)
theorem dX5_spares_68 : decode cX5_spares 68 = .ok (.iload 7, 2) := fo_21 (fw_get da_cX5_spares_1 18 rfl)
theorem dX5_spares_70 : decode cX5_spares 70 = .ok (.ireturn, 1) := fo_172 (fw_get da_cX5_spares_1 19 rfl)
theorem mi_wsX5_swings_wsX5_swings_r1 : ∀ w ∈ wsX5_swings_r1, w ∈ wsX5_swings := fun _ h => (List.mem_cons_of_mem _ (List.mem_append_left _ (List.mem_append_left _ h)))
theorem mi_wsX5_swings_wsX50 : ∀ w ∈ wsX50, w ∈ wsX5_swings := fun _ h => (List.mem_cons_of_mem _ (List.mem_append_right _ h))
set_option maxRecDepth 20000 in
theorem ggX5_swings_X5_isRange : GoodIn wsX5_swings wsX5_isRange := goodIn_m _ [(wsX5_swings_r1, [false, false, false, false, false, false, false, true, true]), (wsX50, [true, true, true, true, true, true, true, true, true, true, true, true, true, true, true, true, true, true, true, true, true, true, true, true, true, true, true, true, true, true])] (gm_c mi_wsX5_swings_wsX5_swings_r1 (gm_c mi_wsX5_swings_wsX50 gm_n)) rfl (by decide +kernel)
set_option maxRecDepth 20000 in
theorem gX5_swings_X5_isRange : GoodIn wsX5_swings (wsV RX5 142 RX5 yX5_isRange wsX5_isRange) := goodIn_app (goodIn_m _ [(wsX5_swings_r1, [false, false, false, true, true, true, true])] (gm_c mi_wsX5_swings_wsX5_swings_r1 gm_n) rfl (by decide +kernel)) ggX5_swings_X5_isRange
set_option maxRecDepth 20000 in
theorem ggX5_swings_X5_isValue : GoodIn wsX5_swings wsX5_isValue := goodIn_m _ [(wsX5_swings_r1, [false, false, false, false, false, false, false, false, false, false, false, true, true, true]), (wsX5_swings_r1, [false, false, false, false, false, false, true, false, false, false, false, false, false, false, true])] (gm_c mi_wsX5_swings_wsX5_swings_r1 (gm_c mi_wsX5_swings_wsX5_swings_r1 gm_n)) rfl (by decide +kernel)
set_option maxRecDepth 20000 in
theorem gX5_swings_X5_isValue : GoodIn wsX5_swings (va_wsS RX5 132 yX5_isValue wsX5_isValue) := goodIn_app (goodIn_m _ [(wsX5_swings_r1, [false, false, false, false, false, false, false, false, false, true, true]), (wsX5_swings_r1, [false, false, false, false, false, false, true])] (gm_c mi_wsX5_swings_wsX5_swings_r1 (gm_c mi_wsX5_swings_wsX5_swings_r1 gm_n)) rfl (by decide +kernel)) ggX5_swings_X5_isValue
set_option maxRecDepth 20000 in
theorem ggX5_swings_X5_within : GoodIn wsX5_swings wsX5_within := goodIn_m _ [(wsX5_swings_r1, [false, false, false, false, false, false, false, false, false, false, false, false, false, false, true])] (gm_c mi_wsX5_swings_wsX5_swings_r1 gm_n) rfl (by decide +kernel)
set_option maxRecDepth 20000 in
theorem gX5_swings_X5_within : GoodIn wsX5_swings (va_wsS RX5 80 yX5_within wsX5_within) := goodIn_app (goodIn_m _ [(wsX5_swings_r1, [false, false, false, false, false, false, false, false, false, false, false, false, true, true]), (wsX5_swings_r1, [false, false, false, false, false, false, true])] (gm_c mi_wsX5_swings_wsX5_swings_r1 (gm_c mi_wsX5_swings_wsX5_swings_r1 gm_n)) rfl (by decide +kernel)) ggX5_swings_X5_within
theorem mi_wsX5_swings_wsX5_swings_r2 : ∀ w ∈ wsX5_swings_r2, w ∈ wsX5_swings := fun _ h => (List.mem_cons_of_mem _ (List.mem_append_left _ (List.mem_append_right _ (List.mem_append_left _ h))))
theorem mi_wsX5_swings_wsX5_swings_r3 : ∀ w ∈ wsX5_swings_r3, w ∈ wsX5_swings := fun _ h => (List.mem_cons_of_mem _ (List.mem_append_left _ (List.mem_append_right _ (List.mem_append_right _ h))))
set_option maxRecDepth 20000 in
theorem ggX5_swings_X5_laysAll : GoodIn wsX5_swings wsX5_laysAll := goodIn_m _ [(wsX5_swings_r1, [false, false, false, false, false, false, false, false, false, false, false, false, false, false, false, false, false, false, true, true]), (wsX5_swings_r1, [false, false, false, false, false, false, false, false, true, false, false, false, false, false, false, false, false, false, false, false, true, true, true]), (wsX5_swings_r1, [false, false, false, false, false, false, true, false, false, false, false, false, false, false, false, false, false, false, false, false, false, false, false, true]), (wsX5_swings_r2, [true, true]), (wsX5_swings_r1, [false, true]), (wsX5_swings_r2, [false, false, true, true, true, true, true, true, true, true, true, true, true, true, true, true, true, true, true, true, true, true, true, true]), (wsX5_swings_r3, [true, true, true, true, true, true]), (wsX50, [true, true, true, true, true, true, true, true, true, true, true, true, true, true, true, true, true, true, true, true, true, true, true, true, true, true, true, true, true, true])] (gm_c mi_wsX5_swings_wsX5_swings_r1 (gm_c mi_wsX5_swings_wsX5_swings_r1 (gm_c mi_wsX5_swings_wsX5_swings_r1 (gm_c mi_wsX5_swings_wsX5_swings_r2 (gm_c mi_wsX5_swings_wsX5_swings_r1 (gm_c mi_wsX5_swings_wsX5_swings_r2 (gm_c mi_wsX5_swings_wsX5_swings_r3 (gm_c mi_wsX5_swings_wsX50 gm_n)))))))) rfl (by decide +kernel)
set_option maxRecDepth 20000 in
theorem gX5_swings_X5_laysAll : GoodIn wsX5_swings (wsV RX5 124 RX5 yX5_laysAll wsX5_laysAll) := goodIn_app (goodIn_m _ [(wsX5_swings_r1, [false, false, false, false, false, false, false, false, false, false, false, false, false, false, false, true, true, true]), (wsX5_swings_r1, [false, false, false, false, false, false, true])] (gm_c mi_wsX5_swings_wsX5_swings_r1 (gm_c mi_wsX5_swings_wsX5_swings_r1 gm_n)) rfl (by decide +kernel)) ggX5_swings_X5_laysAll
set_option maxRecDepth 20000 in
theorem ggX5_swings_X5_numbersOf : GoodIn wsX5_swings wsX5_numbersOf := goodIn_m _ [(wsX5_swings_r3, [false, false, false, false, false, false, false, false, false, true]), (wsX5_swings_r2, [false, false, false, false, false, false, true, false, false, false, true]), (wsX50, [true, true, true, true, true, true, true, true, true, true, true, true, true, true, true, true, true, true, true, true, true, true, true, true, true, true, true, true, true, true])] (gm_c mi_wsX5_swings_wsX5_swings_r3 (gm_c mi_wsX5_swings_wsX5_swings_r2 (gm_c mi_wsX5_swings_wsX50 gm_n))) rfl (by decide +kernel)
set_option maxRecDepth 20000 in
theorem gX5_swings_X5_numbersOf : GoodIn wsX5_swings (wsV RX5 174 RX5 yX5_numbersOf wsX5_numbersOf) := goodIn_app (goodIn_m _ [(wsX5_swings_r3, [false, false, false, false, false, false, true, true, true]), (wsX5_swings_r1, [false, false, false, false, false, false, true])] (gm_c mi_wsX5_swings_wsX5_swings_r3 (gm_c mi_wsX5_swings_wsX5_swings_r1 gm_n)) rfl (by decide +kernel)) ggX5_swings_X5_numbersOf
def dt_cX5_swings_0 : List (Nat × Nat × Nat × Nat) := [(0, 42, 0, 0), (1, 3, 0, 0), (2, 181, 2, 77), (5, 42, 0, 0), (6, 27, 0, 0), (7, 28, 0, 0), (8, 182, 2, 142), (11, 153, 2, 28), (14, 28, 0, 0), (15, 27, 0, 0), (16, 100, 0, 0), (17, 16, 1, 40), (19, 163, 2, 20), (22, 29, 0, 0), (23, 184, 2, 132), (26, 153, 2, 13), (29, 21, 1, 4), (31, 3, 0, 0), (32, 4, 0, 0), (33, 184, 2, 80)]
theorem da_cX5_swings_0 : fw dt_cX5_swings_0 0 cX5_swings.data.toList = true := by decide +kernel
theorem dX5_swings_0 : decode cX5_swings 0 = .ok (.aload_n 0, 1) := fo_42 (fw_get da_cX5_swings_0 0 rfl)
theorem dX5_swings_1 : decode cX5_swings 1 = .ok (.iconst 0, 1) := fo_3 (fw_get da_cX5_swings_0 1 rfl)
theorem dX5_swings_2 : decode cX5_swings 2 = .ok (.putfield 77, 3) := fo_181 (fw_get da_cX5_swings_0 2 rfl)
theorem dX5_swings_5 : decode cX5_swings 5 = .ok (.aload_n 0, 1) := fo_42 (fw_get da_cX5_swings_0 3 rfl)
theorem dX5_swings_6 : decode cX5_swings 6 = .ok (.iload_n 1, 1) := fo_27 (fw_get da_cX5_swings_0 4 rfl)
theorem dX5_swings_7 : decode cX5_swings 7 = .ok (.iload_n 2, 1) := fo_28 (fw_get da_cX5_swings_0 5 rfl)
theorem dX5_swings_8 : decode cX5_swings 8 = .ok (.invokevirtual 142, 3) := fo_182 (fw_get da_cX5_swings_0 6 rfl)
theorem dX5_swings_11 : decode cX5_swings 11 = .ok (.ifCond .eq 28, 3) := fo_153 (fw_get da_cX5_swings_0 7 rfl) (by decide +kernel)
theorem dX5_swings_14 : decode cX5_swings 14 = .ok (.iload_n 2, 1) := fo_28 (fw_get da_cX5_swings_0 8 rfl)
theorem dX5_swings_15 : decode cX5_swings 15 = .ok (.iload_n 1, 1) := fo_27 (fw_get da_cX5_swings_0 9 rfl)
theorem dX5_swings_16 : decode cX5_swings 16 = .ok (.isub, 1) := fo_100 (fw_get da_cX5_swings_0 10 rfl)
theorem dX5_swings_17 : decode cX5_swings 17 = .ok (.bipush 40, 2) := fo_16 (fw_get da_cX5_swings_0 11 rfl) (by decide +kernel)
theorem dX5_swings_19 : decode cX5_swings 19 = .ok (.if_icmp .gt 20, 3) := fo_163 (fw_get da_cX5_swings_0 12 rfl) (by decide +kernel)
theorem dX5_swings_22 : decode cX5_swings 22 = .ok (.iload_n 3, 1) := fo_29 (fw_get da_cX5_swings_0 13 rfl)
theorem dX5_swings_23 : decode cX5_swings 23 = .ok (.invokestatic 132, 3) := fo_184 (fw_get da_cX5_swings_0 14 rfl)
theorem dX5_swings_26 : decode cX5_swings 26 = .ok (.ifCond .eq 13, 3) := fo_153 (fw_get da_cX5_swings_0 15 rfl) (by decide +kernel)
theorem dX5_swings_29 : decode cX5_swings 29 = .ok (.iload 4, 2) := fo_21 (fw_get da_cX5_swings_0 16 rfl)
theorem dX5_swings_31 : decode cX5_swings 31 = .ok (.iconst 0, 1) := fo_3 (fw_get da_cX5_swings_0 17 rfl)
theorem dX5_swings_32 : decode cX5_swings 32 = .ok (.iconst 1, 1) := fo_4 (fw_get da_cX5_swings_0 18 rfl)
theorem dX5_swings_33 : decode cX5_swings 33 = .ok (.invokestatic 80, 3) := fo_184 (fw_get da_cX5_swings_0 19 rfl)
def dt_cX5_swings_1 : List (Nat × Nat × Nat × Nat) := [(36, 154, 2, 5), (39, 2, 0, 0), (40, 172, 0, 0), (41, 2, 0, 0), (42, 54, 1, 5), (44, 2, 0, 0), (45, 54, 1, 6), (47, 27, 0, 0), (48, 54, 1, 7), (50, 21, 1, 7), (52, 28, 0, 0), (53, 162, 2, 68), (56, 42, 0, 0), (57, 180, 2, 7), (60, 21, 1, 7), (62, 46, 0, 0), (63, 54, 1, 8), (65, 42, 0, 0), (66, 180, 2, 7), (69, 21, 1, 7)]
theorem da_cX5_swings_1 : fw dt_cX5_swings_1 0 cX5_swings.data.toList = true := by decide +kernel
theorem dX5_swings_36 : decode cX5_swings 36 = .ok (.ifCond .ne 5, 3) := fo_154 (fw_get da_cX5_swings_1 0 rfl) (by decide +kernel)
theorem dX5_swings_39 : decode cX5_swings 39 = .ok (.iconst (-1), 1) := fo_2 (fw_get da_cX5_swings_1 1 rfl)
theorem dX5_swings_40 : decode cX5_swings 40 = .ok (.ireturn, 1) := fo_172 (fw_get da_cX5_swings_1 2 rfl)
theorem dX5_swings_41 : decode cX5_swings 41 = .ok (.iconst (-1), 1) := fo_2 (fw_get da_cX5_swings_1 3 rfl)
theorem dX5_swings_42 : decode cX5_swings 42 = .ok (.istore 5, 2) := fo_54 (fw_get da_cX5_swings_1 4 rfl)
theorem dX5_swings_44 : decode cX5_swings 44 = .ok (.iconst (-1), 1) := fo_2 (fw_get da_cX5_swings_1 5 rfl)
theorem dX5_swings_45 : decode cX5_swings 45 = .ok (.istore 6, 2) := fo_54 (fw_get da_cX5_swings_1 6 rfl)
theorem dX5_swings_47 : decode cX5_swings 47 = .ok (.iload_n 1, 1) := fo_27 (fw_get da_cX5_swings_1 7 rfl)
theorem dX5_swings_48 : decode cX5_swings 48 = .ok (.istore 7, 2) := fo_54 (fw_get da_cX5_swings_1 8 rfl)
theorem dX5_swings_50 : decode cX5_swings 50 = .ok (.iload 7, 2) := fo_21 (fw_get da_cX5_swings_1 9 rfl)
theorem dX5_swings_52 : decode cX5_swings 52 = .ok (.iload_n 2, 1) := fo_28 (fw_get da_cX5_swings_1 10 rfl)
theorem dX5_swings_53 : decode cX5_swings 53 = .ok (.if_icmp .ge 68, 3) := fo_162 (fw_get da_cX5_swings_1 11 rfl) (by decide +kernel)
theorem dX5_swings_56 : decode cX5_swings 56 = .ok (.aload_n 0, 1) := fo_42 (fw_get da_cX5_swings_1 12 rfl)
theorem dX5_swings_57 : decode cX5_swings 57 = .ok (.getfield 7, 3) := fo_180 (fw_get da_cX5_swings_1 13 rfl)
theorem dX5_swings_60 : decode cX5_swings 60 = .ok (.iload 7, 2) := fo_21 (fw_get da_cX5_swings_1 14 rfl)
theorem dX5_swings_62 : decode cX5_swings 62 = .ok (.iaload, 1) := fo_46 (fw_get da_cX5_swings_1 15 rfl)
theorem dX5_swings_63 : decode cX5_swings 63 = .ok (.istore 8, 2) := fo_54 (fw_get da_cX5_swings_1 16 rfl)
theorem dX5_swings_65 : decode cX5_swings 65 = .ok (.aload_n 0, 1) := fo_42 (fw_get da_cX5_swings_1 17 rfl)
theorem dX5_swings_66 : decode cX5_swings 66 = .ok (.getfield 7, 3) := fo_180 (fw_get da_cX5_swings_1 18 rfl)
theorem dX5_swings_69 : decode cX5_swings 69 = .ok (.iload 7, 2) := fo_21 (fw_get da_cX5_swings_1 19 rfl)
def dt_cX5_swings_2 : List (Nat × Nat × Nat × Nat) := [(71, 29, 0, 0), (72, 79, 0, 0), (73, 42, 0, 0), (74, 42, 0, 0), (75, 180, 2, 13), (78, 182, 2, 124), (81, 42, 0, 0), (82, 180, 2, 7), (85, 21, 1, 7), (87, 21, 1, 8), (89, 79, 0, 0), (90, 42, 0, 0), (91, 3, 0, 0), (92, 182, 2, 174), (95, 54, 1, 9), (97, 21, 1, 9), (99, 21, 1, 6), (101, 163, 2, 6), (104, 167, 2, 11), (107, 21, 1, 7)]
theorem da_cX5_swings_2 : fw dt_cX5_swings_2 0 cX5_swings.data.toList = true := by decide +kernel
theorem dX5_swings_71 : decode cX5_swings 71 = .ok (.iload_n 3, 1) := fo_29 (fw_get da_cX5_swings_2 0 rfl)
theorem dX5_swings_72 : decode cX5_swings 72 = .ok (.iastore, 1) := fo_79 (fw_get da_cX5_swings_2 1 rfl)
theorem dX5_swings_73 : decode cX5_swings 73 = .ok (.aload_n 0, 1) := fo_42 (fw_get da_cX5_swings_2 2 rfl)
theorem dX5_swings_74 : decode cX5_swings 74 = .ok (.aload_n 0, 1) := fo_42 (fw_get da_cX5_swings_2 3 rfl)
theorem dX5_swings_75 : decode cX5_swings 75 = .ok (.getfield 13, 3) := fo_180 (fw_get da_cX5_swings_2 4 rfl)
theorem dX5_swings_78 : decode cX5_swings 78 = .ok (.invokevirtual 124, 3) := fo_182 (fw_get da_cX5_swings_2 5 rfl)
theorem dX5_swings_81 : decode cX5_swings 81 = .ok (.aload_n 0, 1) := fo_42 (fw_get da_cX5_swings_2 6 rfl)
theorem dX5_swings_82 : decode cX5_swings 82 = .ok (.getfield 7, 3) := fo_180 (fw_get da_cX5_swings_2 7 rfl)
theorem dX5_swings_85 : decode cX5_swings 85 = .ok (.iload 7, 2) := fo_21 (fw_get da_cX5_swings_2 8 rfl)
theorem dX5_swings_87 : decode cX5_swings 87 = .ok (.iload 8, 2) := fo_21 (fw_get da_cX5_swings_2 9 rfl)
theorem dX5_swings_89 : decode cX5_swings 89 = .ok (.iastore, 1) := fo_79 (fw_get da_cX5_swings_2 10 rfl)
theorem dX5_swings_90 : decode cX5_swings 90 = .ok (.aload_n 0, 1) := fo_42 (fw_get da_cX5_swings_2 11 rfl)
theorem dX5_swings_91 : decode cX5_swings 91 = .ok (.iconst 0, 1) := fo_3 (fw_get da_cX5_swings_2 12 rfl)
theorem dX5_swings_92 : decode cX5_swings 92 = .ok (.invokevirtual 174, 3) := fo_182 (fw_get da_cX5_swings_2 13 rfl)
theorem dX5_swings_95 : decode cX5_swings 95 = .ok (.istore 9, 2) := fo_54 (fw_get da_cX5_swings_2 14 rfl)
theorem dX5_swings_97 : decode cX5_swings 97 = .ok (.iload 9, 2) := fo_21 (fw_get da_cX5_swings_2 15 rfl)
theorem dX5_swings_99 : decode cX5_swings 99 = .ok (.iload 6, 2) := fo_21 (fw_get da_cX5_swings_2 16 rfl)
theorem dX5_swings_101 : decode cX5_swings 101 = .ok (.if_icmp .gt 6, 3) := fo_163 (fw_get da_cX5_swings_2 17 rfl) (by decide +kernel)
theorem dX5_swings_104 : decode cX5_swings 104 = .ok (.goto 11, 3) := fo_167 (fw_get da_cX5_swings_2 18 rfl) (by decide +kernel)
theorem dX5_swings_107 : decode cX5_swings 107 = .ok (.iload 7, 2) := fo_21 (fw_get da_cX5_swings_2 19 rfl)
def dt_cX5_swings_3 : List (Nat × Nat × Nat × Nat) := [(109, 54, 1, 5), (111, 21, 1, 9), (113, 54, 1, 6), (115, 132, 2, 1793), (118, 167, 2, 65468), (121, 21, 1, 4), (123, 154, 2, 8), (126, 21, 1, 5), (128, 167, 2, 5), (131, 21, 1, 6), (133, 172, 0, 0)]
theorem da_cX5_swings_3 : fw dt_cX5_swings_3 0 cX5_swings.data.toList = true := by decide +kernel
theorem dX5_swings_109 : decode cX5_swings 109 = .ok (.istore 5, 2) := fo_54 (fw_get da_cX5_swings_3 0 rfl)
theorem dX5_swings_111 : decode cX5_swings 111 = .ok (.iload 9, 2) := fo_21 (fw_get da_cX5_swings_3 1 rfl)
theorem dX5_swings_113 : decode cX5_swings 113 = .ok (.istore 6, 2) := fo_54 (fw_get da_cX5_swings_3 2 rfl)
theorem dX5_swings_115 : decode cX5_swings 115 = .ok (.iinc 7 1, 3) := fo_132 (fw_get da_cX5_swings_3 3 rfl) rfl (by decide +kernel)
theorem dX5_swings_118 : decode cX5_swings 118 = .ok (.goto (-68), 3) := fo_167 (fw_get da_cX5_swings_3 4 rfl) (by decide +kernel)
theorem dX5_swings_121 : decode cX5_swings 121 = .ok (.iload 4, 2) := fo_21 (fw_get da_cX5_swings_3 5 rfl)
theorem dX5_swings_123 : decode cX5_swings 123 = .ok (.ifCond .ne 8, 3) := fo_154 (fw_get da_cX5_swings_3 6 rfl) (by decide +kernel)
theorem dX5_swings_126 : decode cX5_swings 126 = .ok (.iload 5, 2) := fo_21 (fw_get da_cX5_swings_3 7 rfl)
theorem dX5_swings_128 : decode cX5_swings 128 = .ok (.goto 5, 3) := fo_167 (fw_get da_cX5_swings_3 8 rfl) (by decide +kernel)
theorem dX5_swings_131 : decode cX5_swings 131 = .ok (.iload 6, 2) := fo_21 (fw_get da_cX5_swings_3 9 rfl)
theorem dX5_swings_133 : decode cX5_swings 133 = .ok (.ireturn, 1) := fo_172 (fw_get da_cX5_swings_3 10 rfl)
set_option maxRecDepth 20000 in
theorem ggX5_deep_X5_deep : GoodIn wsX5_deep wsX5_deep := goodIn_r _ [0, 1, 2, 3, 4] rfl (by decide +kernel)
set_option maxRecDepth 20000 in
theorem gX5_deep_X5_deep : GoodIn wsX5_deep (wsV RX5 220 RX5 yX5_deep wsX5_deep) := goodIn_app (goodIn_r _ [1, 2, 3, 4] rfl (by decide +kernel)) ggX5_deep_X5_deep
def dt_cX5_deep_0 : List (Nat × Nat × Nat × Nat) := [(0, 28, 0, 0), (1, 27, 0, 0), (2, 100, 0, 0), (3, 5, 0, 0), (4, 162, 2, 7), (7, 28, 0, 0), (8, 27, 0, 0), (9, 100, 0, 0), (10, 172, 0, 0), (11, 27, 0, 0), (12, 28, 0, 0), (13, 96, 0, 0), (14, 5, 0, 0), (15, 108, 0, 0), (16, 62, 0, 0), (17, 42, 0, 0), (18, 27, 0, 0), (19, 29, 0, 0), (20, 182, 2, 220), (23, 54, 1, 4)]
theorem da_cX5_deep_0 : fw dt_cX5_deep_0 0 cX5_deep.data.toList = true := by decide +kernel
theorem dX5_deep_0 : decode cX5_deep 0 = .ok (.iload_n 2, 1) := fo_28 (fw_get da_cX5_deep_0 0 rfl)
theorem dX5_deep_1 : decode cX5_deep 1 = .ok (.iload_n 1, 1) := fo_27 (fw_get da_cX5_deep_0 1 rfl)
theorem dX5_deep_2 : decode cX5_deep 2 = .ok (.isub, 1) := fo_100 (fw_get da_cX5_deep_0 2 rfl)
theorem dX5_deep_3 : decode cX5_deep 3 = .ok (.iconst 2, 1) := fo_5 (fw_get da_cX5_deep_0 3 rfl)
theorem dX5_deep_4 : decode cX5_deep 4 = .ok (.if_icmp .ge 7, 3) := fo_162 (fw_get da_cX5_deep_0 4 rfl) (by decide +kernel)
theorem dX5_deep_7 : decode cX5_deep 7 = .ok (.iload_n 2, 1) := fo_28 (fw_get da_cX5_deep_0 5 rfl)
theorem dX5_deep_8 : decode cX5_deep 8 = .ok (.iload_n 1, 1) := fo_27 (fw_get da_cX5_deep_0 6 rfl)
theorem dX5_deep_9 : decode cX5_deep 9 = .ok (.isub, 1) := fo_100 (fw_get da_cX5_deep_0 7 rfl)
theorem dX5_deep_10 : decode cX5_deep 10 = .ok (.ireturn, 1) := fo_172 (fw_get da_cX5_deep_0 8 rfl)
theorem dX5_deep_11 : decode cX5_deep 11 = .ok (.iload_n 1, 1) := fo_27 (fw_get da_cX5_deep_0 9 rfl)
theorem dX5_deep_12 : decode cX5_deep 12 = .ok (.iload_n 2, 1) := fo_28 (fw_get da_cX5_deep_0 10 rfl)
theorem dX5_deep_13 : decode cX5_deep 13 = .ok (.iadd, 1) := fo_96 (fw_get da_cX5_deep_0 11 rfl)
theorem dX5_deep_14 : decode cX5_deep 14 = .ok (.iconst 2, 1) := fo_5 (fw_get da_cX5_deep_0 12 rfl)
theorem dX5_deep_15 : decode cX5_deep 15 = .ok (.idiv, 1) := fo_108 (fw_get da_cX5_deep_0 13 rfl)
theorem dX5_deep_16 : decode cX5_deep 16 = .ok (.istore_n 3, 1) := fo_62 (fw_get da_cX5_deep_0 14 rfl)
theorem dX5_deep_17 : decode cX5_deep 17 = .ok (.aload_n 0, 1) := fo_42 (fw_get da_cX5_deep_0 15 rfl)
theorem dX5_deep_18 : decode cX5_deep 18 = .ok (.iload_n 1, 1) := fo_27 (fw_get da_cX5_deep_0 16 rfl)
theorem dX5_deep_19 : decode cX5_deep 19 = .ok (.iload_n 3, 1) := fo_29 (fw_get da_cX5_deep_0 17 rfl)
theorem dX5_deep_20 : decode cX5_deep 20 = .ok (.invokevirtual 220, 3) := fo_182 (fw_get da_cX5_deep_0 18 rfl)
theorem dX5_deep_23 : decode cX5_deep 23 = .ok (.istore 4, 2) := fo_54 (fw_get da_cX5_deep_0 19 rfl)
def dt_cX5_deep_1 : List (Nat × Nat × Nat × Nat) := [(25, 42, 0, 0), (26, 29, 0, 0), (27, 28, 0, 0), (28, 182, 2, 220), (31, 54, 1, 5), (33, 4, 0, 0), (34, 21, 1, 4), (36, 21, 1, 5), (38, 164, 2, 8), (41, 21, 1, 4), (43, 167, 2, 5), (46, 21, 1, 5), (48, 96, 0, 0), (49, 172, 0, 0)]
theorem da_cX5_deep_1 : fw dt_cX5_deep_1 0 cX5_deep.data.toList = true := by decide +kernel
theorem dX5_deep_25 : decode cX5_deep 25 = .ok (.aload_n 0, 1) := fo_42 (fw_get da_cX5_deep_1 0 rfl)
theorem dX5_deep_26 : decode cX5_deep 26 = .ok (.iload_n 3, 1) := fo_29 (fw_get da_cX5_deep_1 1 rfl)
theorem dX5_deep_27 : decode cX5_deep 27 = .ok (.iload_n 2, 1) := fo_28 (fw_get da_cX5_deep_1 2 rfl)
theorem dX5_deep_28 : decode cX5_deep 28 = .ok (.invokevirtual 220, 3) := fo_182 (fw_get da_cX5_deep_1 3 rfl)
theorem dX5_deep_31 : decode cX5_deep 31 = .ok (.istore 5, 2) := fo_54 (fw_get da_cX5_deep_1 4 rfl)
theorem dX5_deep_33 : decode cX5_deep 33 = .ok (.iconst 1, 1) := fo_4 (fw_get da_cX5_deep_1 5 rfl)
theorem dX5_deep_34 : decode cX5_deep 34 = .ok (.iload 4, 2) := fo_21 (fw_get da_cX5_deep_1 6 rfl)
theorem dX5_deep_36 : decode cX5_deep 36 = .ok (.iload 5, 2) := fo_21 (fw_get da_cX5_deep_1 7 rfl)
theorem dX5_deep_38 : decode cX5_deep 38 = .ok (.if_icmp .le 8, 3) := fo_164 (fw_get da_cX5_deep_1 8 rfl) (by decide +kernel)
theorem dX5_deep_41 : decode cX5_deep 41 = .ok (.iload 4, 2) := fo_21 (fw_get da_cX5_deep_1 9 rfl)
theorem dX5_deep_43 : decode cX5_deep 43 = .ok (.goto 5, 3) := fo_167 (fw_get da_cX5_deep_1 10 rfl) (by decide +kernel)
theorem dX5_deep_46 : decode cX5_deep 46 = .ok (.iload 5, 2) := fo_21 (fw_get da_cX5_deep_1 11 rfl)
theorem dX5_deep_48 : decode cX5_deep 48 = .ok (.iadd, 1) := fo_96 (fw_get da_cX5_deep_1 12 rfl)
theorem dX5_deep_49 : decode cX5_deep 49 = .ok (.ireturn, 1) := fo_172 (fw_get da_cX5_deep_1 13 rfl)
set_option maxRecDepth 20000 in
theorem ggX5_nodesWithMajority_X5_majorityOf : GoodIn wsX5_nodesWithMajority wsX5_majorityOf := goodIn_r _ [9, 10, 4, 11, 12, 13, 8, 14, 15, 16, 17, 18, 19, 20, 21, 22, 23, 24, 25, 26, 27, 28, 29, 30, 31, 32, 33, 34, 35, 36, 37, 38, 39, 40, 41, 42, 43, 44] rfl (by decide +kernel)
set_option maxRecDepth 20000 in
theorem gX5_nodesWithMajority_X5_majorityOf : GoodIn wsX5_nodesWithMajority (wsV RX5 194 RX5 yX5_majorityOf wsX5_majorityOf) := goodIn_app (goodIn_r _ [5, 6, 7, 8] rfl (by decide +kernel)) ggX5_nodesWithMajority_X5_majorityOf
def dt_cX5_nodesWithMajority_0 : List (Nat × Nat × Nat × Nat) := [(0, 3, 0, 0), (1, 60, 0, 0), (2, 3, 0, 0), (3, 61, 0, 0), (4, 28, 0, 0), (5, 42, 0, 0), (6, 180, 2, 101), (9, 162, 2, 33), (12, 42, 0, 0), (13, 42, 0, 0), (14, 180, 2, 38), (17, 28, 0, 0), (18, 46, 0, 0), (19, 42, 0, 0), (20, 180, 2, 41), (23, 28, 0, 0), (24, 46, 0, 0), (25, 182, 2, 194), (28, 18, 1, 148), (30, 159, 2, 6)]
theorem da_cX5_nodesWithMajority_0 : fw dt_cX5_nodesWithMajority_0 0 cX5_nodesWithMajority.data.toList = true := by decide +kernel
theorem dX5_nodesWithMajority_0 : decode cX5_nodesWithMajority 0 = .ok (.iconst 0, 1) := fo_3 (fw_get da_cX5_nodesWithMajority_0 0 rfl)
theorem dX5_nodesWithMajority_1 : decode cX5_nodesWithMajority 1 = .ok (.istore_n 1, 1) := fo_60 (fw_get da_cX5_nodesWithMajority_0 1 rfl)
theorem dX5_nodesWithMajority_2 : decode cX5_nodesWithMajority 2 = .ok (.iconst 0, 1) := fo_3 (fw_get da_cX5_nodesWithMajority_0 2 rfl)
theorem dX5_nodesWithMajority_3 : decode cX5_nodesWithMajority 3 = .ok (.istore_n 2, 1) := fo_61 (fw_get da_cX5_nodesWithMajority_0 3 rfl)
theorem dX5_nodesWithMajority_4 : decode cX5_nodesWithMajority 4 = .ok (.iload_n 2, 1) := fo_28 (fw_get da_cX5_nodesWithMajority_0 4 rfl)
theorem dX5_nodesWithMajority_5 : decode cX5_nodesWithMajority 5 = .ok (.aload_n 0, 1) := fo_42 (fw_get da_cX5_nodesWithMajority_0 5 rfl)
theorem dX5_nodesWithMajority_6 : decode cX5_nodesWithMajority 6 = .ok (.getfield 101, 3) := fo_180 (fw_get da_cX5_nodesWithMajority_0 6 rfl)
theorem dX5_nodesWithMajority_9 : decode cX5_nodesWithMajority 9 = .ok (.if_icmp .ge 33, 3) := fo_162 (fw_get da_cX5_nodesWithMajority_0 7 rfl) (by decide +kernel)
theorem dX5_nodesWithMajority_12 : decode cX5_nodesWithMajority 12 = .ok (.aload_n 0, 1) := fo_42 (fw_get da_cX5_nodesWithMajority_0 8 rfl)
theorem dX5_nodesWithMajority_13 : decode cX5_nodesWithMajority 13 = .ok (.aload_n 0, 1) := fo_42 (fw_get da_cX5_nodesWithMajority_0 9 rfl)
theorem dX5_nodesWithMajority_14 : decode cX5_nodesWithMajority 14 = .ok (.getfield 38, 3) := fo_180 (fw_get da_cX5_nodesWithMajority_0 10 rfl)
theorem dX5_nodesWithMajority_17 : decode cX5_nodesWithMajority 17 = .ok (.iload_n 2, 1) := fo_28 (fw_get da_cX5_nodesWithMajority_0 11 rfl)
theorem dX5_nodesWithMajority_18 : decode cX5_nodesWithMajority 18 = .ok (.iaload, 1) := fo_46 (fw_get da_cX5_nodesWithMajority_0 12 rfl)
theorem dX5_nodesWithMajority_19 : decode cX5_nodesWithMajority 19 = .ok (.aload_n 0, 1) := fo_42 (fw_get da_cX5_nodesWithMajority_0 13 rfl)
theorem dX5_nodesWithMajority_20 : decode cX5_nodesWithMajority 20 = .ok (.getfield 41, 3) := fo_180 (fw_get da_cX5_nodesWithMajority_0 14 rfl)
theorem dX5_nodesWithMajority_23 : decode cX5_nodesWithMajority 23 = .ok (.iload_n 2, 1) := fo_28 (fw_get da_cX5_nodesWithMajority_0 15 rfl)
theorem dX5_nodesWithMajority_24 : decode cX5_nodesWithMajority 24 = .ok (.iaload, 1) := fo_46 (fw_get da_cX5_nodesWithMajority_0 16 rfl)
theorem dX5_nodesWithMajority_25 : decode cX5_nodesWithMajority 25 = .ok (.invokevirtual 194, 3) := fo_182 (fw_get da_cX5_nodesWithMajority_0 17 rfl)
theorem dX5_nodesWithMajority_28 : decode cX5_nodesWithMajority 28 = .ok (.ldc 148, 2) := fo_18 (fw_get da_cX5_nodesWithMajority_0 18 rfl)
theorem dX5_nodesWithMajority_30 : decode cX5_nodesWithMajority 30 = .ok (.if_icmp .eq 6, 3) := fo_159 (fw_get da_cX5_nodesWithMajority_0 19 rfl) (by decide +kernel)
def dt_cX5_nodesWithMajority_1 : List (Nat × Nat × Nat × Nat) := [(33, 132, 2, 257), (36, 132, 2, 513), (39, 167, 2, 65501), (42, 27, 0, 0), (43, 172, 0, 0)]
theorem da_cX5_nodesWithMajority_1 : fw dt_cX5_nodesWithMajority_1 0 cX5_nodesWithMajority.data.toList = true := by decide +kernel
theorem dX5_nodesWithMajority_33 : decode cX5_nodesWithMajority 33 = .ok (.iinc 1 1, 3) := fo_132 (fw_get da_cX5_nodesWithMajority_1 0 rfl) rfl (by decide +kernel)
theorem dX5_nodesWithMajority_36 : decode cX5_nodesWithMajority 36 = .ok (.iinc 2 1, 3) := fo_132 (fw_get da_cX5_nodesWithMajority_1 1 rfl) rfl (by decide +kernel)
theorem dX5_nodesWithMajority_39 : decode cX5_nodesWithMajority 39 = .ok (.goto (-35), 3) := fo_167 (fw_get da_cX5_nodesWithMajority_1 2 rfl) (by decide +kernel)
theorem dX5_nodesWithMajority_42 : decode cX5_nodesWithMajority 42 = .ok (.iload_n 1, 1) := fo_27 (fw_get da_cX5_nodesWithMajority_1 3 rfl)
theorem dX5_nodesWithMajority_43 : decode cX5_nodesWithMajority 43 = .ok (.ireturn, 1) := fo_172 (fw_get da_cX5_nodesWithMajority_1 4 rfl)
theorem mi_wsX5_told_wsX5_told_r1 : ∀ w ∈ wsX5_told_r1, w ∈ wsX5_told := fun _ h => (List.mem_cons_of_mem _ (List.mem_append_left _ (List.mem_append_left _ h)))
theorem mi_wsX5_told_wsX5_told_r2 : ∀ w ∈ wsX5_told_r2, w ∈ wsX5_told := fun _ h => (List.mem_cons_of_mem _ (List.mem_append_left _ (List.mem_append_right _ (List.mem_append_left _ h))))
theorem mi_wsX5_told_wsX50 : ∀ w ∈ wsX50, w ∈ wsX5_told := fun _ h => (List.mem_cons_of_mem _ (List.mem_append_right _ h))
set_option maxRecDepth 20000 in
theorem ggX5_told_X5_laysAll : GoodIn wsX5_told wsX5_laysAll := goodIn_m _ [(wsX5_told_r1, [false, false, false, false, false, false, false, false, false, true]), (wsX5_told_r1, [false, false, false, true]), (wsX5_told_r1, [false, false, true, false, false, false, false, false, false, false, true, true, true]), (wsX5_told_r1, [false, false, false, false, false, false, false, false, true, false, false, false, false, true, true, true, true, true, true, true, true, true]), (wsX5_told_r1, [false, false, false, false, true, false, false, false, false, false, false, false, false, false, false, false, false, false, false, false, false, false, true, true]), (wsX5_told_r2, [true, true, true, true, true, true, true, true, true, true, true, true, true, true, true, true, true, true, true, true]), (wsX50, [true, true, true, true, true, true, true, true, true, true, true, true, true, true, true, true, true, true, true, true, true, true, true, true, true, true, true, true, true, true])] (gm_c mi_wsX5_told_wsX5_told_r1 (gm_c mi_wsX5_told_wsX5_told_r1 (gm_c mi_wsX5_told_wsX5_told_r1 (gm_c mi_wsX5_told_wsX5_told_r1 (gm_c mi_wsX5_told_wsX5_told_r1 (gm_c mi_wsX5_told_wsX5_told_r2 (gm_c mi_wsX5_told_wsX50 gm_n))))))) rfl (by decide +kernel)
set_option maxRecDepth 20000 in
theorem gX5_told_X5_laysAll : GoodIn wsX5_told (wsV RX5 124 RX5 yX5_laysAll wsX5_laysAll) := goodIn_app (goodIn_m _ [(wsX5_told_r1, [false, false, false, false, false, true, true, true, true])] (gm_c mi_wsX5_told_wsX5_told_r1 gm_n) rfl (by decide +kernel)) ggX5_told_X5_laysAll
theorem mi_wsX5_told_wsX5_told_r3 : ∀ w ∈ wsX5_told_r3, w ∈ wsX5_told := fun _ h => (List.mem_cons_of_mem _ (List.mem_append_left _ (List.mem_append_right _ (List.mem_append_right _ h))))
set_option maxRecDepth 20000 in
theorem ggX5_told_X5_nodesWithMajority : GoodIn wsX5_told wsX5_nodesWithMajority := goodIn_m _ [(wsX5_told_r2, [false, false, false, false, false, false, false, false, false, false, false, false, false, false, false, false, false, false, false, false, false, false, false, true]), (wsX5_told_r1, [false, false, false, true, false, false, false, false, false, false, false, false, false, false, true, true]), (wsX5_told_r3, [true, true, true, true]), (wsX5_told_r1, [false, false, false, false, false, false, false, false, true]), (wsX5_told_r3, [false, false, false, false, true]), (wsX5_told_r1, [false, false, false, false, false, false, false, false, false, false, false, false, false, false, false, false, true]), (wsX5_told_r3, [false, false, false, false, false, true, true, true, true]), (wsX50, [true, true, true, true, true, true, true, true, true, true, true, true, true, true, true, true, true, true, true, true, true, true, true, true, true, true, true, true, true, true])] (gm_c mi_wsX5_told_wsX5_told_r2 (gm_c mi_wsX5_told_wsX5_told_r1 (gm_c mi_wsX5_told_wsX5_told_r3 (gm_c mi_wsX5_told_wsX5_told_r1 (gm_c mi_wsX5_told_wsX5_told_r3 (gm_c mi_wsX5_told_wsX5_told_r1 (gm_c mi_wsX5_told_wsX5_told_r3 (gm_c mi_wsX5_told_wsX50 gm_n)))))))) rfl (by decide +kernel)
set_option maxRecDepth 20000 in
theorem gX5_told_X5_nodesWithMajority : GoodIn wsX5_told (wsV RX5 223 RX5 yX5_nodesWithMajority wsX5_nodesWithMajority) := goodIn_app (goodIn_m _ [(wsX5_told_r2, [false, false, false, false, false, false, false, false, false, false, false, false, false, false, false, false, false, false, false, false, true, true, true]), (wsX5_told_r1, [false, false, false, false, false, false, false, false, true])] (gm_c mi_wsX5_told_wsX5_told_r2 (gm_c mi_wsX5_told_wsX5_told_r1 gm_n)) rfl (by decide +kernel)) ggX5_told_X5_nodesWithMajority
set_option maxRecDepth 20000 in
theorem ggX5_told_X5_deep : GoodIn wsX5_told wsX5_deep := goodIn_m _ [(wsX5_told_r3, [false, false, false, false, false, false, false, false, false, false, false, false, true]), (wsX5_told_r3, [false, false, false, false, false, false, false, false, false, true, true, true]), (wsX5_told_r1, [false, false, false, false, false, false, false, false, true])] (gm_c mi_wsX5_told_wsX5_told_r3 (gm_c mi_wsX5_told_wsX5_told_r3 (gm_c mi_wsX5_told_wsX5_told_r1 gm_n))) rfl (by decide +kernel)
set_option maxRecDepth 20000 in
theorem gX5_told_X5_deep : GoodIn wsX5_told (wsV RX5 220 RX5 yX5_deep wsX5_deep) := goodIn_app (goodIn_m _ [(wsX5_told_r3, [false, false, false, false, false, false, false, false, false, true, true, true]), (wsX5_told_r1, [false, false, false, false, false, false, false, false, true])] (gm_c mi_wsX5_told_wsX5_told_r3 (gm_c mi_wsX5_told_wsX5_told_r1 gm_n)) rfl (by decide +kernel)) ggX5_told_X5_deep
def dt_cX5_told_0 : List (Nat × Nat × Nat × Nat) := [(0, 42, 0, 0), (1, 3, 0, 0), (2, 181, 2, 77), (5, 42, 0, 0), (6, 42, 0, 0), (7, 180, 2, 13), (10, 182, 2, 124), (13, 27, 0, 0)]
theorem da_cX5_told_0 : fw dt_cX5_told_0 0 cX5_told.data.toList = true := by decide +kernel
theorem dX5_told_0 : decode cX5_told 0 = .ok (.aload_n 0, 1) := fo_42 (fw_get da_cX5_told_0 0 rfl)
theorem dX5_told_1 : decode cX5_told 1 = .ok (.iconst 0, 1) := fo_3 (fw_get da_cX5_told_0 1 rfl)
theorem dX5_told_2 : decode cX5_told 2 = .ok (.putfield 77, 3) := fo_181 (fw_get da_cX5_told_0 2 rfl)
theorem dX5_told_5 : decode cX5_told 5 = .ok (.aload_n 0, 1) := fo_42 (fw_get da_cX5_told_0 3 rfl)
theorem dX5_told_6 : decode cX5_told 6 = .ok (.aload_n 0, 1) := fo_42 (fw_get da_cX5_told_0 4 rfl)
theorem dX5_told_7 : decode cX5_told 7 = .ok (.getfield 13, 3) := fo_180 (fw_get da_cX5_told_0 5 rfl)
theorem dX5_told_10 : decode cX5_told 10 = .ok (.invokevirtual 124, 3) := fo_182 (fw_get da_cX5_told_0 6 rfl)
theorem dX5_told_13 : decode cX5_told 13 = .ok (.iload_n 1, 1) := fo_27 (fw_get da_cX5_told_0 7 rfl)
theorem dX5_told_14 : decode cX5_told 14 = .ok (.tableswitch 119 0 6 #[42, 47, 52, 57, 62, 72, 90], 42) := by decide +kernel
def dt_cX5_told_1 : List (Nat × Nat × Nat × Nat) := [(56, 42, 0, 0), (57, 180, 2, 84), (60, 172, 0, 0), (61, 42, 0, 0), (62, 180, 2, 13), (65, 172, 0, 0), (66, 42, 0, 0), (67, 180, 2, 101), (70, 172, 0, 0), (71, 42, 0, 0), (72, 182, 2, 223), (75, 172, 0, 0), (76, 42, 0, 0), (77, 3, 0, 0), (78, 42, 0, 0), (79, 180, 2, 84), (82, 182, 2, 220), (85, 172, 0, 0), (86, 42, 0, 0), (87, 180, 2, 84)]
theorem da_cX5_told_1 : fw dt_cX5_told_1 0 cX5_told.data.toList = true := by decide +kernel
theorem dX5_told_56 : decode cX5_told 56 = .ok (.aload_n 0, 1) := fo_42 (fw_get da_cX5_told_1 0 rfl)
theorem dX5_told_57 : decode cX5_told 57 = .ok (.getfield 84, 3) := fo_180 (fw_get da_cX5_told_1 1 rfl)
theorem dX5_told_60 : decode cX5_told 60 = .ok (.ireturn, 1) := fo_172 (fw_get da_cX5_told_1 2 rfl)
theorem dX5_told_61 : decode cX5_told 61 = .ok (.aload_n 0, 1) := fo_42 (fw_get da_cX5_told_1 3 rfl)
theorem dX5_told_62 : decode cX5_told 62 = .ok (.getfield 13, 3) := fo_180 (fw_get da_cX5_told_1 4 rfl)
theorem dX5_told_65 : decode cX5_told 65 = .ok (.ireturn, 1) := fo_172 (fw_get da_cX5_told_1 5 rfl)
theorem dX5_told_66 : decode cX5_told 66 = .ok (.aload_n 0, 1) := fo_42 (fw_get da_cX5_told_1 6 rfl)
theorem dX5_told_67 : decode cX5_told 67 = .ok (.getfield 101, 3) := fo_180 (fw_get da_cX5_told_1 7 rfl)
theorem dX5_told_70 : decode cX5_told 70 = .ok (.ireturn, 1) := fo_172 (fw_get da_cX5_told_1 8 rfl)
theorem dX5_told_71 : decode cX5_told 71 = .ok (.aload_n 0, 1) := fo_42 (fw_get da_cX5_told_1 9 rfl)
theorem dX5_told_72 : decode cX5_told 72 = .ok (.invokevirtual 223, 3) := fo_182 (fw_get da_cX5_told_1 10 rfl)
theorem dX5_told_75 : decode cX5_told 75 = .ok (.ireturn, 1) := fo_172 (fw_get da_cX5_told_1 11 rfl)
theorem dX5_told_76 : decode cX5_told 76 = .ok (.aload_n 0, 1) := fo_42 (fw_get da_cX5_told_1 12 rfl)
theorem dX5_told_77 : decode cX5_told 77 = .ok (.iconst 0, 1) := fo_3 (fw_get da_cX5_told_1 13 rfl)
theorem dX5_told_78 : decode cX5_told 78 = .ok (.aload_n 0, 1) := fo_42 (fw_get da_cX5_told_1 14 rfl)
theorem dX5_told_79 : decode cX5_told 79 = .ok (.getfield 84, 3) := fo_180 (fw_get da_cX5_told_1 15 rfl)
theorem dX5_told_82 : decode cX5_told 82 = .ok (.invokevirtual 220, 3) := fo_182 (fw_get da_cX5_told_1 16 rfl)
theorem dX5_told_85 : decode cX5_told 85 = .ok (.ireturn, 1) := fo_172 (fw_get da_cX5_told_1 17 rfl)
theorem dX5_told_86 : decode cX5_told 86 = .ok (.aload_n 0, 1) := fo_42 (fw_get da_cX5_told_1 18 rfl)
theorem dX5_told_87 : decode cX5_told 87 = .ok (.getfield 84, 3) := fo_180 (fw_get da_cX5_told_1 19 rfl)
def dt_cX5_told_2 : List (Nat × Nat × Nat × Nat) := [(90, 154, 2, 7), (93, 3, 0, 0), (94, 167, 2, 9), (97, 42, 0, 0), (98, 180, 2, 20), (101, 3, 0, 0), (102, 46, 0, 0), (103, 172, 0, 0), (104, 3, 0, 0), (105, 61, 0, 0), (106, 3, 0, 0), (107, 62, 0, 0), (108, 29, 0, 0), (109, 42, 0, 0), (110, 180, 2, 101), (113, 162, 2, 18), (116, 28, 0, 0), (117, 42, 0, 0), (118, 180, 2, 20), (121, 29, 0, 0)]
theorem da_cX5_told_2 : fw dt_cX5_told_2 0 cX5_told.data.toList = true := by decide +kernel
theorem dX5_told_90 : decode cX5_told 90 = .ok (.ifCond .ne 7, 3) := fo_154 (fw_get da_cX5_told_2 0 rfl) (by decide +kernel)
theorem dX5_told_93 : decode cX5_told 93 = .ok (.iconst 0, 1) := fo_3 (fw_get da_cX5_told_2 1 rfl)
theorem dX5_told_94 : decode cX5_told 94 = .ok (.goto 9, 3) := fo_167 (fw_get da_cX5_told_2 2 rfl) (by decide +kernel)
theorem dX5_told_97 : decode cX5_told 97 = .ok (.aload_n 0, 1) := fo_42 (fw_get da_cX5_told_2 3 rfl)
theorem dX5_told_98 : decode cX5_told 98 = .ok (.getfield 20, 3) := fo_180 (fw_get da_cX5_told_2 4 rfl)
theorem dX5_told_101 : decode cX5_told 101 = .ok (.iconst 0, 1) := fo_3 (fw_get da_cX5_told_2 5 rfl)
theorem dX5_told_102 : decode cX5_told 102 = .ok (.iaload, 1) := fo_46 (fw_get da_cX5_told_2 6 rfl)
theorem dX5_told_103 : decode cX5_told 103 = .ok (.ireturn, 1) := fo_172 (fw_get da_cX5_told_2 7 rfl)
theorem dX5_told_104 : decode cX5_told 104 = .ok (.iconst 0, 1) := fo_3 (fw_get da_cX5_told_2 8 rfl)
theorem dX5_told_105 : decode cX5_told 105 = .ok (.istore_n 2, 1) := fo_61 (fw_get da_cX5_told_2 9 rfl)
theorem dX5_told_106 : decode cX5_told 106 = .ok (.iconst 0, 1) := fo_3 (fw_get da_cX5_told_2 10 rfl)
theorem dX5_told_107 : decode cX5_told 107 = .ok (.istore_n 3, 1) := fo_62 (fw_get da_cX5_told_2 11 rfl)
theorem dX5_told_108 : decode cX5_told 108 = .ok (.iload_n 3, 1) := fo_29 (fw_get da_cX5_told_2 12 rfl)
theorem dX5_told_109 : decode cX5_told 109 = .ok (.aload_n 0, 1) := fo_42 (fw_get da_cX5_told_2 13 rfl)
theorem dX5_told_110 : decode cX5_told 110 = .ok (.getfield 101, 3) := fo_180 (fw_get da_cX5_told_2 14 rfl)
theorem dX5_told_113 : decode cX5_told 113 = .ok (.if_icmp .ge 18, 3) := fo_162 (fw_get da_cX5_told_2 15 rfl) (by decide +kernel)
theorem dX5_told_116 : decode cX5_told 116 = .ok (.iload_n 2, 1) := fo_28 (fw_get da_cX5_told_2 16 rfl)
theorem dX5_told_117 : decode cX5_told 117 = .ok (.aload_n 0, 1) := fo_42 (fw_get da_cX5_told_2 17 rfl)
theorem dX5_told_118 : decode cX5_told 118 = .ok (.getfield 20, 3) := fo_180 (fw_get da_cX5_told_2 18 rfl)
theorem dX5_told_121 : decode cX5_told 121 = .ok (.iload_n 3, 1) := fo_29 (fw_get da_cX5_told_2 19 rfl)
def dt_cX5_told_3 : List (Nat × Nat × Nat × Nat) := [(122, 46, 0, 0), (123, 96, 0, 0), (124, 61, 0, 0), (125, 132, 2, 769), (128, 167, 2, 65516), (131, 28, 0, 0), (132, 172, 0, 0), (133, 2, 0, 0), (134, 172, 0, 0)]
theorem da_cX5_told_3 : fw dt_cX5_told_3 0 cX5_told.data.toList = true := by decide +kernel
theorem dX5_told_122 : decode cX5_told 122 = .ok (.iaload, 1) := fo_46 (fw_get da_cX5_told_3 0 rfl)
theorem dX5_told_123 : decode cX5_told 123 = .ok (.iadd, 1) := fo_96 (fw_get da_cX5_told_3 1 rfl)
theorem dX5_told_124 : decode cX5_told 124 = .ok (.istore_n 2, 1) := fo_61 (fw_get da_cX5_told_3 2 rfl)
theorem dX5_told_125 : decode cX5_told 125 = .ok (.iinc 3 1, 3) := fo_132 (fw_get da_cX5_told_3 3 rfl) rfl (by decide +kernel)
theorem dX5_told_128 : decode cX5_told 128 = .ok (.goto (-20), 3) := fo_167 (fw_get da_cX5_told_3 4 rfl) (by decide +kernel)
theorem dX5_told_131 : decode cX5_told 131 = .ok (.iload_n 2, 1) := fo_28 (fw_get da_cX5_told_3 5 rfl)
theorem dX5_told_132 : decode cX5_told 132 = .ok (.ireturn, 1) := fo_172 (fw_get da_cX5_told_3 6 rfl)
theorem dX5_told_133 : decode cX5_told 133 = .ok (.iconst (-1), 1) := fo_2 (fw_get da_cX5_told_3 7 rfl)
theorem dX5_told_134 : decode cX5_told 134 = .ok (.ireturn, 1) := fo_172 (fw_get da_cX5_told_3 8 rfl)

