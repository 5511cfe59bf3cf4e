abbrev cX5_keeps : ByteArray := prog_7_method_23_code
def yX5_keeps : MethodName := ⟨RX5, "keeps", "()V"⟩
abbrev cX5_others : ByteArray := prog_7_method_24_code
def yX5_others : MethodName := ⟨RX5, "others", "()I"⟩
abbrev cX5_set : ByteArray := prog_7_method_25_code
def yX5_set : MethodName := ⟨RX5, "set", "(II)I"⟩
abbrev cX5_fill : ByteArray := prog_7_method_26_code
def yX5_fill : MethodName := ⟨RX5, "fill", "(III)I"⟩
abbrev cX5_exchanges : ByteArray := prog_7_method_27_code
def yX5_exchanges : MethodName := ⟨RX5, "exchanges", "(II)V"⟩
abbrev cX5_turn : ByteArray := prog_7_method_28_code
def yX5_turn : MethodName := ⟨RX5, "turn", "(II)I"⟩
abbrev cX5_swap : ByteArray := prog_7_method_29_code
def yX5_swap : MethodName := ⟨RX5, "swap", "(II)I"⟩
def wsX5_keeps_r1 : List Cond := [Cond.fieldLink RX5 13 "MajorityIndexModel" "slots" "I", Cond.fieldLink RX5 101 "MajorityIndexModel" "nodes" "I", Cond.fieldLink RX5 47 "MajorityIndexModel" "wasMany" "[I", Cond.fieldLink RX5 17 "MajorityIndexModel" "many" "[I", Cond.fieldLink RX5 50 "MajorityIndexModel" "wasLoss" "[I", Cond.fieldLink RX5 20 "MajorityIndexModel" "loss" "[I", Cond.fieldLink RX5 53 "MajorityIndexModel" "wasValue" "[I", Cond.fieldLink RX5 26 "MajorityIndexModel" "voteValue" "[I", Cond.fieldLink RX5 56 "MajorityIndexModel" "wasNumber" "[I", Cond.fieldLink RX5 29 "MajorityIndexModel" "voteNumber" "[I", Cond.methodLink RX5 124 yX5_laysAll, Cond.instanceMethod yX5_laysAll, Cond.selects RX5 yX5_laysAll yX5_laysAll, Cond.initialized RX5, Cond.code yX5_laysAll cX5_laysAll 2 none, Cond.fieldLink RX5 84 "MajorityIndexModel" "n" "I", Cond.methodLink RX5 107 yX5_lays, Cond.instanceMethod yX5_lays, Cond.selects RX5 yX5_lays yX5_lays, Cond.code yX5_lays cX5_lays 8 (some .int), Cond.fieldLink RX5 38 "MajorityIndexModel" "nodeL" "[I", Cond.fieldLink RX5 41 "MajorityIndexModel" "nodeR" "[I", Cond.fieldLink RX5 7 "MajorityIndexModel" "row" "[I", Cond.methodLink RX5 104 yX5_one]
def wsX5_keeps_r2 : List Cond := [Cond.instanceMethod yX5_one, Cond.selects RX5 yX5_one yX5_one, Cond.code yX5_one cX5_one 3 none, Cond.fieldLink RX5 23 "MajorityIndexModel" "less" "[I", Cond.methodLink RX5 111 yX5_together, Cond.instanceMethod yX5_together, Cond.selects RX5 yX5_together yX5_together, Cond.code yX5_together cX5_together 9 none, Cond.fieldLink RX5 87 "MajorityIndexModel" "allMany" "I", Cond.fieldLink RX5 35 "MajorityIndexModel" "allNumber" "[I", Cond.fieldLink RX5 32 "MajorityIndexModel" "allValue" "[I", Cond.methodLink RX5 94 yX5_adds, Cond.instanceMethod yX5_adds, Cond.selects RX5 yX5_adds yX5_adds, Cond.code yX5_adds cX5_adds 4 none, Cond.methodLink RX5 98 yX5_sorts, Cond.instanceMethod yX5_sorts, Cond.selects RX5 yX5_sorts yX5_sorts, Cond.code yX5_sorts cX5_sorts 4 none, Cond.methodLink RX5 90 yX5_isAhead, Cond.instanceMethod yX5_isAhead, Cond.selects RX5 yX5_isAhead yX5_isAhead, Cond.code yX5_isAhead cX5_isAhead 3 (some .boolean)]
def wsX5_keeps : List Cond := .code yX5_keeps cX5_keeps 3 none :: ((wsX5_keeps_r1 ++ wsX5_keeps_r2) ++ wsX50)
def wsX5_others_r1 : List Cond := [Cond.fieldLink RX5 13 "MajorityIndexModel" "slots" "I", Cond.fieldLink RX5 101 "MajorityIndexModel" "nodes" "I", Cond.fieldLink RX5 17 "MajorityIndexModel" "many" "[I", Cond.fieldLink RX5 47 "MajorityIndexModel" "wasMany" "[I", Cond.fieldLink RX5 20 "MajorityIndexModel" "loss" "[I", Cond.fieldLink RX5 50 "MajorityIndexModel" "wasLoss" "[I", Cond.fieldLink RX5 26 "MajorityIndexModel" "voteValue" "[I", Cond.fieldLink RX5 53 "MajorityIndexModel" "wasValue" "[I", Cond.fieldLink RX5 29 "MajorityIndexModel" "voteNumber" "[I", Cond.fieldLink RX5 56 "MajorityIndexModel" "wasNumber" "[I", Cond.methodLink RX5 124 yX5_laysAll, Cond.instanceMethod yX5_laysAll, Cond.selects RX5 yX5_laysAll yX5_laysAll, Cond.initialized RX5, Cond.code yX5_laysAll cX5_laysAll 2 none, Cond.fieldLink RX5 84 "MajorityIndexModel" "n" "I", Cond.methodLink RX5 107 yX5_lays, Cond.instanceMethod yX5_lays, Cond.selects RX5 yX5_lays yX5_lays, Cond.code yX5_lays cX5_lays 8 (some .int), Cond.fieldLink RX5 38 "MajorityIndexModel" "nodeL" "[I", Cond.fieldLink RX5 41 "MajorityIndexModel" "nodeR" "[I", Cond.fieldLink RX5 7 "MajorityIndexModel" "row" "[I", Cond.methodLink RX5 104 yX5_one]
def wsX5_others_r2 : List Cond := [Cond.instanceMethod yX5_one, Cond.selects RX5 yX5_one yX5_one, Cond.code yX5_one cX5_one 3 none, Cond.fieldLink RX5 23 "MajorityIndexModel" "less" "[I", Cond.methodLink RX5 111 yX5_together, Cond.instanceMethod yX5_together, Cond.selects RX5 yX5_together yX5_together, Cond.code yX5_together cX5_together 9 none, Cond.fieldLink RX5 87 "MajorityIndexModel" "allMany" "I", Cond.fieldLink RX5 35 "MajorityIndexModel" "allNumber" "[I", Cond.fieldLink RX5 32 "MajorityIndexModel" "allValue" "[I", Cond.methodLink RX5 94 yX5_adds, Cond.instanceMethod yX5_adds, Cond.selects RX5 yX5_adds yX5_adds, Cond.code yX5_adds cX5_adds 4 none, Cond.methodLink RX5 98 yX5_sorts, Cond.instanceMethod yX5_sorts, Cond.selects RX5 yX5_sorts yX5_sorts, Cond.code yX5_sorts cX5_sorts 4 none, Cond.methodLink RX5 90 yX5_isAhead, Cond.instanceMethod yX5_isAhead, Cond.selects RX5 yX5_isAhead yX5_isAhead, Cond.code yX5_isAhead cX5_isAhead 3 (some .boolean)]
def wsX5_others : List Cond := .code yX5_others cX5_others 5 (some .int) :: ((wsX5_others_r1 ++ wsX5_others_r2) ++ wsX50)
def wsX5_set_r1 : List Cond := [Cond.fieldLink RX5 77 "MajorityIndexModel" "thrown" "I", Cond.fieldLink RX5 7 "MajorityIndexModel" "row" "[I", Cond.methodLink RX5 128 yX5_isPlace, Cond.instanceMethod yX5_isPlace, Cond.selects RX5 yX5_isPlace yX5_isPlace, Cond.initialized RX5, Cond.code yX5_isPlace cX5_isPlace 2 (some .boolean), Cond.fieldLink RX5 84 "MajorityIndexModel" "n" "I", Cond.methodLink RX5 80 yX5_within, Cond.static yX5_within, Cond.code yX5_within cX5_within 3 (some .boolean), Cond.methodLink RX5 132 yX5_isValue, Cond.static yX5_isValue, Cond.code yX5_isValue cX5_isValue 1 (some .boolean), Cond.methodLink RX5 135 yX5_keeps, Cond.instanceMethod yX5_keeps, Cond.selects RX5 yX5_keeps yX5_keeps, Cond.code yX5_keeps cX5_keeps 3 none, Cond.fieldLink RX5 13 "MajorityIndexModel" "slots" "I", Cond.fieldLink RX5 101 "MajorityIndexModel" "nodes" "I", Cond.fieldLink RX5 47 "MajorityIndexModel" "wasMany" "[I", Cond.fieldLink RX5 17 "MajorityIndexModel" "many" "[I", Cond.fieldLink RX5 50 "MajorityIndexModel" "wasLoss" "[I", Cond.fieldLink RX5 20 "MajorityIndexModel" "loss" "[I"]
def wsX5_set_r2 : List Cond := [Cond.fieldLink RX5 53 "MajorityIndexModel" "wasValue" "[I", Cond.fieldLink RX5 26 "MajorityIndexModel" "voteValue" "[I", Cond.fieldLink RX5 56 "MajorityIndexModel" "wasNumber" "[I", Cond.fieldLink RX5 29 "MajorityIndexModel" "voteNumber" "[I", Cond.methodLink RX5 124 yX5_laysAll, Cond.instanceMethod yX5_laysAll, Cond.selects RX5 yX5_laysAll yX5_laysAll, Cond.code yX5_laysAll cX5_laysAll 2 none, Cond.methodLink RX5 107 yX5_lays, Cond.instanceMethod yX5_lays, Cond.selects RX5 yX5_lays yX5_lays, Cond.code yX5_lays cX5_lays 8 (some .int), Cond.fieldLink RX5 38 "MajorityIndexModel" "nodeL" "[I", Cond.fieldLink RX5 41 "MajorityIndexModel" "nodeR" "[I", Cond.methodLink RX5 104 yX5_one, Cond.instanceMethod yX5_one, Cond.selects RX5 yX5_one yX5_one, Cond.code yX5_one cX5_one 3 none, Cond.fieldLink RX5 23 "MajorityIndexModel" "less" "[I", Cond.methodLink RX5 111 yX5_together, Cond.instanceMethod yX5_together, Cond.selects RX5 yX5_together yX5_together, Cond.code yX5_together cX5_together 9 none, Cond.fieldLink RX5 87 "MajorityIndexModel" "allMany" "I"]
def wsX5_set_r3 : List Cond := [Cond.fieldLink RX5 35 "MajorityIndexModel" "allNumber" "[I", Cond.fieldLink RX5 32 "MajorityIndexModel" "allValue" "[I", Cond.methodLink RX5 94 yX5_adds, Cond.instanceMethod yX5_adds, Cond.selects RX5 yX5_adds yX5_adds, Cond.code yX5_adds cX5_adds 4 none, Cond.methodLink RX5 98 yX5_sorts, Cond.instanceMethod yX5_sorts, Cond.selects RX5 yX5_sorts yX5_sorts, Cond.code yX5_sorts cX5_sorts 4 none, Cond.methodLink RX5 90 yX5_isAhead, Cond.instanceMethod yX5_isAhead, Cond.selects RX5 yX5_isAhead yX5_isAhead, Cond.code yX5_isAhead cX5_isAhead 3 (some .boolean), Cond.methodLink RX5 138 yX5_others, Cond.instanceMethod yX5_others, Cond.selects RX5 yX5_others yX5_others, Cond.code yX5_others cX5_others 5 (some .int)]
def wsX5_set : List Cond := .code yX5_set cX5_set 3 (some .int) :: ((wsX5_set_r1 ++ (wsX5_set_r2 ++ wsX5_set_r3)) ++ wsX50)
def wsX5_fill_r1 : List Cond := [Cond.fieldLink RX5 77 "MajorityIndexModel" "thrown" "I", Cond.fieldLink RX5 7 "MajorityIndexModel" "row" "[I", Cond.methodLink RX5 142 yX5_isRange, Cond.instanceMethod yX5_isRange, Cond.selects RX5 yX5_isRange yX5_isRange, Cond.initialized RX5, Cond.code yX5_isRange cX5_isRange 3 (some .boolean), Cond.fieldLink RX5 84 "MajorityIndexModel" "n" "I", Cond.methodLink RX5 132 yX5_isValue, Cond.static yX5_isValue, Cond.code yX5_isValue cX5_isValue 1 (some .boolean), Cond.methodLink RX5 80 yX5_within, Cond.static yX5_within, Cond.code yX5_within cX5_within 3 (some .boolean), Cond.methodLink RX5 135 yX5_keeps, Cond.instanceMethod yX5_keeps, Cond.selects RX5 yX5_keeps yX5_keeps, Cond.code yX5_keeps cX5_keeps 3 none, Cond.fieldLink RX5 13 "MajorityIndexModel" "slots" "I", Cond.fieldLink RX5 101 "MajorityIndexModel" "nodes" "I", Cond.fieldLink RX5 47 "MajorityIndexModel" "wasMany" "[I", Cond.fieldLink RX5 17 "MajorityIndexModel" "many" "[I", Cond.fieldLink RX5 50 "MajorityIndexModel" "wasLoss" "[I", Cond.fieldLink RX5 20 "MajorityIndexModel" "loss" "[I"]
def wsX5_fill_r2 : List Cond := [Cond.fieldLink RX5 53 "MajorityIndexModel" "wasValue" "[I", Cond.fieldLink RX5 26 "MajorityIndexModel" "voteValue" "[I", Cond.fieldLink RX5 56 "MajorityIndexModel" "wasNumber" "[I", Cond.fieldLink RX5 29 "MajorityIndexModel" "voteNumber" "[I", Cond.methodLink RX5 124 yX5_laysAll, Cond.instanceMethod yX5_laysAll, Cond.selects RX5 yX5_laysAll yX5_laysAll, Cond.code yX5_laysAll cX5_laysAll 2 none, Cond.methodLink RX5 107 yX5_lays, Cond.instanceMethod yX5_lays, Cond.selects RX5 yX5_lays yX5_lays, Cond.code yX5_lays cX5_lays 8 (some .int), Cond.fieldLink RX5 38 "MajorityIndexModel" "nodeL" "[I", Cond.fieldLink RX5 41 "MajorityIndexModel" "nodeR" "[I", Cond.methodLink RX5 104 yX5_one, Cond.instanceMethod yX5_one, Cond.selects RX5 yX5_one yX5_one, Cond.code yX5_one cX5_one 3 none, Cond.fieldLink RX5 23 "MajorityIndexModel" "less" "[I", Cond.methodLink RX5 111 yX5_together, Cond.instanceMethod yX5_together, Cond.selects RX5 yX5_together yX5_together, Cond.code yX5_together cX5_together 9 none, Cond.fieldLink RX5 87 "MajorityIndexModel" "allMany" "I"]
def wsX5_fill_r3 : List Cond := [Cond.fieldLink RX5 35 "MajorityIndexModel" "allNumber" "[I", Cond.fieldLink RX5 32 "MajorityIndexModel" "allValue" "[I", Cond.methodLink RX5 94 yX5_adds, Cond.instanceMethod yX5_adds, Cond.selects RX5 yX5_adds yX5_adds, Cond.code yX5_adds cX5_adds 4 none, Cond.methodLink RX5 98 yX5_sorts, Cond.instanceMethod yX5_sorts, Cond.selects RX5 yX5_sorts yX5_sorts, Cond.code yX5_sorts cX5_sorts 4 none, Cond.methodLink RX5 90 yX5_isAhead, Cond.instanceMethod yX5_isAhead, Cond.selects RX5 yX5_isAhead yX5_isAhead, Cond.code yX5_isAhead cX5_isAhead 3 (some .boolean), Cond.methodLink RX5 138 yX5_others, Cond.instanceMethod yX5_others, Cond.selects RX5 yX5_others yX5_others, Cond.code yX5_others cX5_others 5 (some .int)]
def wsX5_fill : List Cond := .code yX5_fill cX5_fill 5 (some .int) :: ((wsX5_fill_r1 ++ (wsX5_fill_r2 ++ wsX5_fill_r3)) ++ wsX50)
def wsX5_exchanges : List Cond := .code yX5_exchanges cX5_exchanges 4 none :: ([.fieldLink RX5 7 "MajorityIndexModel" "row" "[I"] ++ wsX50)
def wsX5_turn_r1 : List Cond := [Cond.fieldLink RX5 77 "MajorityIndexModel" "thrown" "I", Cond.methodLink RX5 142 yX5_isRange, Cond.instanceMethod yX5_isRange, Cond.selects RX5 yX5_isRange yX5_isRange, Cond.initialized RX5, Cond.code yX5_isRange cX5_isRange 3 (some .boolean), Cond.fieldLink RX5 84 "MajorityIndexModel" "n" "I", Cond.methodLink RX5 135 yX5_keeps, Cond.instanceMethod yX5_keeps, Cond.selects RX5 yX5_keeps yX5_keeps, Cond.code yX5_keeps cX5_keeps 3 none, Cond.fieldLink RX5 13 "MajorityIndexModel" "slots" "I", Cond.fieldLink RX5 101 "MajorityIndexModel" "nodes" "I", Cond.fieldLink RX5 47 "MajorityIndexModel" "wasMany" "[I", Cond.fieldLink RX5 17 "MajorityIndexModel" "many" "[I", Cond.fieldLink RX5 50 "MajorityIndexModel" "wasLoss" "[I", Cond.fieldLink RX5 20 "MajorityIndexModel" "loss" "[I", Cond.fieldLink RX5 53 "MajorityIndexModel" "wasValue" "[I", Cond.fieldLink RX5 26 "MajorityIndexModel" "voteValue" "[I", Cond.fieldLink RX5 56 "MajorityIndexModel" "wasNumber" "[I", Cond.fieldLink RX5 29 "MajorityIndexModel" "voteNumber" "[I", Cond.methodLink RX5 124 yX5_laysAll, Cond.instanceMethod yX5_laysAll, Cond.selects RX5 yX5_laysAll yX5_laysAll]
def wsX5_turn_r2 : List Cond := [Cond.code yX5_laysAll cX5_laysAll 2 none, Cond.methodLink RX5 107 yX5_lays, Cond.instanceMethod yX5_lays, Cond.selects RX5 yX5_lays yX5_lays, Cond.code yX5_lays cX5_lays 8 (some .int), Cond.fieldLink RX5 38 "MajorityIndexModel" "nodeL" "[I", Cond.fieldLink RX5 41 "MajorityIndexModel" "nodeR" "[I", Cond.fieldLink RX5 7 "MajorityIndexModel" "row" "[I", Cond.methodLink RX5 104 yX5_one, Cond.instanceMethod yX5_one, Cond.selects RX5 yX5_one yX5_one, Cond.code yX5_one cX5_one 3 none, Cond.fieldLink RX5 23 "MajorityIndexModel" "less" "[I", Cond.methodLink RX5 111 yX5_together, Cond.instanceMethod yX5_together, Cond.selects RX5 yX5_together yX5_together, Cond.code yX5_together cX5_together 9 none, Cond.fieldLink RX5 87 "MajorityIndexModel" "allMany" "I", Cond.fieldLink RX5 35 "MajorityIndexModel" "allNumber" "[I", Cond.fieldLink RX5 32 "MajorityIndexModel" "allValue" "[I", Cond.methodLink RX5 94 yX5_adds, Cond.instanceMethod yX5_adds, Cond.selects RX5 yX5_adds yX5_adds, Cond.code yX5_adds cX5_adds 4 none]
def wsX5_turn_r3 : List Cond := [Cond.methodLink RX5 98 yX5_sorts, Cond.instanceMethod yX5_sorts, Cond.selects RX5 yX5_sorts yX5_sorts, Cond.code yX5_sorts cX5_sorts 4 none, Cond.methodLink RX5 90 yX5_isAhead, Cond.instanceMethod yX5_isAhead, Cond.selects RX5 yX5_isAhead yX5_isAhead, Cond.code yX5_isAhead cX5_isAhead 3 (some .boolean), Cond.methodLink RX5 145 yX5_exchanges, Cond.instanceMethod yX5_exchanges, Cond.selects RX5 yX5_exchanges yX5_exchanges, Cond.code yX5_exchanges cX5_exchanges 4 none, Cond.methodLink RX5 138 yX5_others, Cond.instanceMethod yX5_others, Cond.selects RX5 yX5_others yX5_others, Cond.code yX5_others cX5_others 5 (some .int)]
def wsX5_turn : List Cond := .code yX5_turn cX5_turn 4 (some .int) :: ((wsX5_turn_r1 ++ (wsX5_turn_r2 ++ wsX5_turn_r3)) ++ wsX50)
def wsX5_swap_r1 : List Cond := [Cond.fieldLink RX5 77 "MajorityIndexModel" "thrown" "I", Cond.methodLink RX5 128 yX5_isPlace, Cond.instanceMethod yX5_isPlace, Cond.selects RX5 yX5_isPlace yX5_isPlace, Cond.initialized RX5, Cond.code yX5_isPlace cX5_isPlace 2 (some .boolean), Cond.fieldLink RX5 84 "MajorityIndexModel" "n" "I", Cond.methodLink RX5 80 yX5_within, Cond.static yX5_within, Cond.code yX5_within cX5_within 3 (some .boolean), Cond.methodLink RX5 135 yX5_keeps, Cond.instanceMethod yX5_keeps, Cond.selects RX5 yX5_keeps yX5_keeps, Cond.code yX5_keeps cX5_keeps 3 none, Cond.fieldLink RX5 13 "MajorityIndexModel" "slots" "I", Cond.fieldLink RX5 101 "MajorityIndexModel" "nodes" "I", Cond.fieldLink RX5 47 "MajorityIndexModel" "wasMany" "[I", Cond.fieldLink RX5 17 "MajorityIndexModel" "many" "[I", Cond.fieldLink RX5 50 "MajorityIndexModel" "wasLoss" "[I", Cond.fieldLink RX5 20 "MajorityIndexModel" "loss" "[I", Cond.fieldLink RX5 53 "MajorityIndexModel" "wasValue" "[I", Cond.fieldLink RX5 26 "MajorityIndexModel" "voteValue" "[I", Cond.fieldLink RX5 56 "MajorityIndexModel" "wasNumber" "[I", Cond.fieldLink RX5 29 "MajorityIndexModel" "voteNumber" "[I"]
def wsX5_swap_r2 : List Cond := [Cond.methodLink RX5 124 yX5_laysAll, Cond.instanceMethod yX5_laysAll, Cond.selects RX5 yX5_laysAll yX5_laysAll, Cond.code yX5_laysAll cX5_laysAll 2 none, Cond.methodLink RX5 107 yX5_lays, Cond.instanceMethod yX5_lays, Cond.selects RX5 yX5_lays yX5_lays, Cond.code yX5_lays cX5_lays 8 (some .int), Cond.fieldLink RX5 38 "MajorityIndexModel" "nodeL" "[I", Cond.fieldLink RX5 41 "MajorityIndexModel" "nodeR" "[I", Cond.fieldLink RX5 7 "MajorityIndexModel" "row" "[I", Cond.methodLink RX5 104 yX5_one, Cond.instanceMethod yX5_one, Cond.selects RX5 yX5_one yX5_one, Cond.code yX5_one cX5_one 3 none, Cond.fieldLink RX5 23 "MajorityIndexModel" "less" "[I", Cond.methodLink RX5 111 yX5_together, Cond.instanceMethod yX5_together, Cond.selects RX5 yX5_together yX5_together, Cond.code yX5_together cX5_together 9 none, Cond.fieldLink RX5 87 "MajorityIndexModel" "allMany" "I", Cond.fieldLink RX5 35 "MajorityIndexModel" "allNumber" "[I", Cond.fieldLink RX5 32 "MajorityIndexModel" "allValue" "[I", Cond.methodLink RX5 94 yX5_adds]
def wsX5_swap_r3 : List Cond := [Cond.instanceMethod yX5_adds, Cond.selects RX5 yX5_adds yX5_adds, Cond.code yX5_adds cX5_adds 4 none, Cond.methodLink RX5 98 yX5_sorts, Cond.instanceMethod yX5_sorts, Cond.selects RX5 yX5_sorts yX5_sorts, Cond.code yX5_sorts cX5_sorts 4 none, Cond.methodLink RX5 90 yX5_isAhead, Cond.instanceMethod yX5_isAhead, Cond.selects RX5 yX5_isAhead yX5_isAhead, Cond.code yX5_isAhead cX5_isAhead 3 (some .boolean), Cond.methodLink RX5 145 yX5_exchanges, Cond.instanceMethod yX5_exchanges, Cond.selects RX5 yX5_exchanges yX5_exchanges, Cond.code yX5_exchanges cX5_exchanges 4 none, Cond.methodLink RX5 138 yX5_others, Cond.instanceMethod yX5_others, Cond.selects RX5 yX5_others yX5_others, Cond.code yX5_others cX5_others 5 (some .int)]
def wsX5_swap : List Cond := .code yX5_swap cX5_swap 3 (some .int) :: ((wsX5_swap_r1 ++ (wsX5_swap_r2 ++ wsX5_swap_r3)) ++ wsX50)
theorem mi_wsX5_keeps_wsX5_keeps_r1 : ∀ w ∈ wsX5_keeps_r1, w ∈ wsX5_keeps := fun _ h => (List.mem_cons_of_mem _ (List.mem_append_left _ (List.mem_append_left _ h)))
theorem mi_wsX5_keeps_wsX5_keeps_r2 : ∀ w ∈ wsX5_keeps_r2, w ∈ wsX5_keeps := fun _ h => (List.mem_cons_of_mem _ (List.mem_append_left _ (List.mem_append_right _ h)))
theorem mi_wsX5_keeps_wsX50 : ∀ w ∈ wsX50, w ∈ wsX5_keeps := fun _ h => (List.mem_cons_of_mem _ (List.mem_append_right _ h))
set_option maxRecDepth 20000 in
theorem ggX5_keeps_X5_laysAll : GoodIn wsX5_keeps wsX5_laysAll := goodIn_k _ [(wsX5_keeps_r1, [14, 1, 15, 16, 17, 18, 13, 19, 20, 21, 22, 23]), (wsX5_keeps_r2, [0, 1, 2]), (wsX5_keeps_r1, [3, 5]), (wsX5_keeps_r2, [3]), (wsX5_keeps_r1, [7, 9]), (wsX5_keeps_r2, [4, 5, 6, 7, 8, 9, 10, 11, 12, 13, 14, 15, 16, 17, 18, 19, 20, 21, 22]), (wsX50, [0, 1, 2, 3, 4, 5, 6, 7, 8, 9, 10, 11, 12, 13, 14, 15, 16, 17, 18, 19, 20, 21, 22, 23, 24, 25, 26, 27, 28, 29])] (gk_c mi_wsX5_keeps_wsX5_keeps_r1 (gk_c mi_wsX5_keeps_wsX5_keeps_r2 (gk_c mi_wsX5_keeps_wsX5_keeps_r1 (gk_c mi_wsX5_keeps_wsX5_keeps_r2 (gk_c mi_wsX5_keeps_wsX5_keeps_r1 (gk_c mi_wsX5_keeps_wsX5_keeps_r2 (gk_c mi_wsX5_keeps_wsX50 gk_n))))))) rfl (by decide +kernel)
set_option maxRecDepth 20000 in
theorem gX5_keeps_X5_laysAll : GoodIn wsX5_keeps (wsV RX5 124 RX5 yX5_laysAll wsX5_laysAll) := goodIn_app (goodIn_k _ [(wsX5_keeps_r1, [10, 11, 12, 13])] (gk_c mi_wsX5_keeps_wsX5_keeps_r1 gk_n) rfl (by decide +kernel)) ggX5_keeps_X5_laysAll
def dt_cX5_keeps_0 : List (Nat × Instr × Nat) := [(0, .aload_n 0, 1), (1, .aload_n 0, 1), (2, .getfield 13, 3), (5, .invokevirtual 124, 3), (8, .iconst 0, 1), (9, .istore_n 1, 1), (10, .iload_n 1, 1), (11, .aload_n 0, 1), (12, .getfield 101, 3), (15, .if_icmp .ge 95, 3), (18, .aload_n 0, 1), (19, .getfield 47, 3), (22, .iload_n 1, 1), (23, .aload_n 0, 1), (24, .getfield 17, 3), (27, .iload_n 1, 1), (28, .iaload, 1), (29, .iastore, 1), (30, .aload_n 0, 1), (31, .getfield 50, 3), (34, .iload_n 1, 1), (35, .aload_n 0, 1), (36, .getfield 20, 3), (39, .iload_n 1, 1), (40, .iaload, 1), (41, .iastore, 1), (42, .iconst 0, 1), (43, .istore_n 2, 1), (44, .iload_n 2, 1), (45, .aload_n 0, 1), (46, .getfield 17, 3), (49, .iload_n 1, 1), (50, .iaload, 1), (51, .if_icmp .ge 53, 3), (54, .aload_n 0, 1), (55, .getfield 53, 3), (58, .bipush 6, 2), (60, .iload_n 1, 1), (61, .imul, 1), (62, .iload_n 2, 1), (63, .iadd, 1), (64, .aload_n 0, 1), (65, .getfield 26, 3), (68, .bipush 6, 2), (70, .iload_n 1, 1), (71, .imul, 1), (72, .iload_n 2, 1), (73, .iadd, 1), (74, .iaload, 1), (75, .iastore, 1), (76, .aload_n 0, 1), (77, .getfield 56, 3), (80, .bipush 6, 2), (82, .iload_n 1, 1), (83, .imul, 1), (84, .iload_n 2, 1), (85, .iadd, 1), (86, .aload_n 0, 1), (87, .getfield 29, 3), (90, .bipush 6, 2)]
theorem da_cX5_keeps_0 : dk_all cX5_keeps dt_cX5_keeps_0 = true := by decide +kernel
theorem dX5_keeps_0 : decode cX5_keeps 0 = .ok (.aload_n 0, 1) := dk_get _ da_cX5_keeps_0 0 _ _ _ rfl
theorem dX5_keeps_1 : decode cX5_keeps 1 = .ok (.aload_n 0, 1) := dk_get _ da_cX5_keeps_0 1 _ _ _ rfl
theorem dX5_keeps_2 : decode cX5_keeps 2 = .ok (.getfield 13, 3) := dk_get _ da_cX5_keeps_0 2 _ _ _ rfl
theorem dX5_keeps_5 : decode cX5_keeps 5 = .ok (.invokevirtual 124, 3) := dk_get _ da_cX5_keeps_0 3 _ _ _ rfl
theorem dX5_keeps_8 : decode cX5_keeps 8 = .ok (.iconst 0, 1) := dk_get _ da_cX5_keeps_0 4 _ _ _ rfl
theorem dX5_keeps_9 : decode cX5_keeps 9 = .ok (.istore_n 1, 1) := dk_get _ da_cX5_keeps_0 5 _ _ _ rfl
theorem dX5_keeps_10 : decode cX5_keeps 10 = .ok (.iload_n 1, 1) := dk_get _ da_cX5_keeps_0 6 _ _ _ rfl
theorem dX5_keeps_11 : decode cX5_keeps 11 = .ok (.aload_n 0, 1) := dk_get _ da_cX5_keeps_0 7 _ _ _ rfl
theorem dX5_keeps_12 : decode cX5_keeps 12 = .ok (.getfield 101, 3) := dk_get _ da_cX5_keeps_0 8 _ _ _ rfl
theorem dX5_keeps_15 : decode cX5_keeps 15 = .ok (.if_icmp .ge 95, 3) := dk_get _ da_cX5_keeps_0 9 _ _ _ rfl
theorem dX5_keeps_18 : decode cX5_keeps 18 = .ok (.aload_n 0, 1) := dk_get _ da_cX5_keeps_0 10 _ _ _ rfl
theorem dX5_keeps_19 : decode cX5_keeps 19 = .ok (.getfield 47, 3) := dk_get _ da_cX5_keeps_0 11 _ _ _ rfl
theorem dX5_keeps_22 : decode cX5_keeps 22 = .ok (.iload_n 1, 1) := dk_get _ da_cX5_keeps_0 12 _ _ _ rfl
theorem dX5_keeps_23 : decode cX5_keeps 23 = .ok (.aload_n 0, 1) := dk_get _ da_cX5_keeps_0 13 _ _ _ rfl
theorem dX5_keeps_24 : decode cX5_keeps 24 = .ok (.getfield 17, 3) := dk_get _ da_cX5_keeps_0 14 _ _ _ rfl
theorem dX5_keeps_27 : decode cX5_keeps 27 = .ok (.iload_n 1, 1) := dk_get _ da_cX5_keeps_0 15 _ _ _ rfl
theorem dX5_keeps_28 : decode cX5_keeps 28 = .ok (.iaload, 1) := dk_get _ da_cX5_keeps_0 16 _ _ _ rfl
theorem dX5_keeps_29 : decode cX5_keeps 29 = .ok (.iastore, 1) := dk_get _ da_cX5_keeps_0 17 _ _ _ rfl
theorem dX5_keeps_30 : decode cX5_keeps 30 = .ok (.aload_n 0, 1) := dk_get _ da_cX5_keeps_0 18 _ _ _ rfl
theorem dX5_keeps_31 : decode cX5_keeps 31 = .ok (.getfield 50, 3) := dk_get _ da_cX5_keeps_0 19 _ _ _ rfl
theorem dX5_keeps_34 : decode cX5_keeps 34 = .ok (.iload_n 1, 1) := dk_get _ da_cX5_keeps_0 20 _ _ _ rfl
theorem dX5_keeps_35 : decode cX5_keeps 35 = .ok (.aload_n 0, 1) := dk_get _ da_cX5_keeps_0 21 _ _ _ rfl
theorem dX5_keeps_36 : decode cX5_keeps 36 = .ok (.getfield 20, 3) := dk_get _ da_cX5_keeps_0 22 _ _ _ rfl
theorem dX5_keeps_39 : decode cX5_keeps 39 = .ok (.iload_n 1, 1) := dk_get _ da_cX5_keeps_0 23 _ _ _ rfl
theorem dX5_keeps_40 : decode cX5_keeps 40 = .ok (.iaload, 1) := dk_get _ da_cX5_keeps_0 24 _ _ _ rfl
theorem dX5_keeps_41 : decode cX5_keeps 41 = .ok (.iastore, 1) := dk_get _ da_cX5_keeps_0 25 _ _ _ rfl
theorem dX5_keeps_42 : decode cX5_keeps 42 = .ok (.iconst 0, 1) := dk_get _ da_cX5_keeps_0 26 _ _ _ rfl
theorem dX5_keeps_43 : decode cX5_keeps 43 = .ok (.istore_n 2, 1) := dk_get _ da_cX5_keeps_0 27 _ _ _ rfl
theorem dX5_keeps_44 : decode cX5_keeps 44 = .ok (.iload_n 2, 1) := dk_get _ da_cX5_keeps_0 28 _ _ _ rfl
theorem dX5_keeps_45 : decode cX5_keeps 45 = .ok (.aload_n 0, 1) := dk_get _ da_cX5_keeps_0 29 _ _ _ rfl
theorem dX5_keeps_46 : decode cX5_keeps 46 = .ok (.getfield 17, 3) := dk_get _ da_cX5_keeps_0 30 _ _ _ rfl
theorem dX5_keeps_49 : decode cX5_keeps 49 = .ok (.iload_n 1, 1) := dk_get _ da_cX5_keeps_0 31 _ _ _ rfl
theorem dX5_keeps_50 : decode cX5_keeps 50 = .ok (.iaload, 1) := dk_get _ da_cX5_keeps_0 32 _ _ _ rfl
theorem dX5_keeps_51 : decode cX5_keeps 51 = .ok (.if_icmp .ge 53, 3) := dk_get _ da_cX5_keeps_0 33 _ _ _ rfl
theorem dX5_keeps_54 : decode cX5_keeps 54 = .ok (.aload_n 0, 1) := dk_get _ da_cX5_keeps_0 34 _ _ _ rfl
theorem dX5_keeps_55 : decode cX5_keeps 55 = .ok (.getfield 53, 3) := dk_get _ da_cX5_keeps_0 35 _ _ _ rfl
theorem dX5_keeps_58 : decode cX5_keeps 58 = .ok (.bipush 6, 2) := dk_get _ da_cX5_keeps_0 36 _ _ _ rfl
theorem dX5_keeps_60 : decode cX5_keeps 60 = .ok (.iload_n 1, 1) := dk_get _ da_cX5_keeps_0 37 _ _ _ rfl
theorem dX5_keeps_61 : decode cX5_keeps 61 = .ok (.imul, 1) := dk_get _ da_cX5_keeps_0 38 _ _ _ rfl
theorem dX5_keeps_62 : decode cX5_keeps 62 = .ok (.iload_n 2, 1) := dk_get _ da_cX5_keeps_0 39 _ _ _ rfl
theorem dX5_keeps_63 : decode cX5_keeps 63 = .ok (.iadd, 1) := dk_get _ da_cX5_keeps_0 40 _ _ _ rfl
theorem dX5_keeps_64 : decode cX5_keeps 64 = .ok (.aload_n 0, 1) := dk_get _ da_cX5_keeps_0 41 _ _ _ rfl
theorem dX5_keeps_65 : decode cX5_keeps 65 = .ok (.getfield 26, 3) := dk_get _ da_cX5_keeps_0 42 _ _ _ rfl
theorem dX5_keeps_68 : decode cX5_keeps 68 = .ok (.bipush 6, 2) := dk_get _ da_cX5_keeps_0 43 _ _ _ rfl
theorem dX5_keeps_70 : decode cX5_keeps 70 = .ok (.iload_n 1, 1) := dk_get _ da_cX5_keeps_0 44 _ _ _ rfl
theorem dX5_keeps_71 : decode cX5_keeps 71 = .ok (.imul, 1) := dk_get _ da_cX5_keeps_0 45 _ _ _ rfl
theorem dX5_keeps_72 : decode cX5_keeps 72 = .ok (.iload_n 2, 1) := dk_get _ da_cX5_keeps_0 46 _ _ _ rfl
theorem dX5_keeps_73 : decode cX5_keeps 73 = .ok (.iadd, 1) := dk_get _ da_cX5_keeps_0 47 _ _ _ rfl
theorem dX5_keeps_74 : decode cX5_keeps 74 = .ok (.iaload, 1) := dk_get _ da_cX5_keeps_0 48 _ _ _ rfl
theorem dX5_keeps_75 : decode cX5_keeps 75 = .ok (.iastore, 1) := dk_get _ da_cX5_keeps_0 49 _ _ _ rfl
theorem dX5_keeps_76 : decode cX5_keeps 76 = .ok (.aload_n 0, 1) := dk_get _ da_cX5_keeps_0 50 _ _ _ rfl
theorem dX5_keeps_77 : decode cX5_keeps 77 = .ok (.getfield 56, 3) := dk_get _ da_cX5_keeps_0 51 _ _ _ rfl
theorem dX5_keeps_80 : decode cX5_keeps 80 = .ok (.bipush 6, 2) := dk_get _ da_cX5_keeps_0 52 _ _ _ rfl
theorem dX5_keeps_82 : decode cX5_keeps 82 = .ok (.iload_n 1, 1) := dk_get _ da_cX5_keeps_0 53 _ _ _ rfl
theorem dX5_keeps_83 : decode cX5_keeps 83 = .ok (.imul, 1) := dk_get _ da_cX5_keeps_0 54 _ _ _ rfl
theorem dX5_keeps_84 : decode cX5_keeps 84 = .ok (.iload_n 2, 1) := dk_get _ da_cX5_keeps_0 55 _ _ _ rfl
theorem dX5_keeps_85 : decode cX5_keeps 85 = .ok (.iadd, 1) := dk_get _ da_cX5_keeps_0 56 _ _ _ rfl
theorem dX5_keeps_86 : decode cX5_keeps 86 = .ok (.aload_n 0, 1) := dk_get _ da_cX5_keeps_0 57 _ _ _ rfl
theorem dX5_keeps_87 : decode cX5_keeps 87 = .ok (.getfield 29, 3) := dk_get _ da_cX5_keeps_0 58 _ _ _ rfl
theorem dX5_keeps_90 : decode cX5_keeps 90 = .ok (.bipush 6, 2) := dk_get _ da_cX5_keeps_0 59 _ _ _ rfl
def dt_cX5_keeps_1 : List (Nat × Instr × Nat) := [(92, .iload_n 1, 1), (93, .imul, 1), (94, .iload_n 2, 1), (95, .iadd, 1), (96, .iaload, 1), (97, .iastore, 1), (98, .iinc 2 1, 3), (101, .goto (-57), 3), (104, .iinc 1 1, 3), (107, .goto (-97), 3), (110, .return_, 1)]
theorem da_cX5_keeps_1 : dk_all cX5_keeps dt_cX5_keeps_1 = true := by decide +kernel
theorem dX5_keeps_92 : decode cX5_keeps 92 = .ok (.iload_n 1, 1) := dk_get _ da_cX5_keeps_1 0 _ _ _ rfl
theorem dX5_keeps_93 : decode cX5_keeps 93 = .ok (.imul, 1) := dk_get _ da_cX5_keeps_1 1 _ _ _ rfl
theorem dX5_keeps_94 : decode cX5_keeps 94 = .ok (.iload_n 2, 1) := dk_get _ da_cX5_keeps_1 2 _ _ _ rfl
theorem dX5_keeps_95 : decode cX5_keeps 95 = .ok (.iadd, 1) := dk_get _ da_cX5_keeps_1 3 _ _ _ rfl
theorem dX5_keeps_96 : decode cX5_keeps 96 = .ok (.iaload, 1) := dk_get _ da_cX5_keeps_1 4 _ _ _ rfl
theorem dX5_keeps_97 : decode cX5_keeps 97 = .ok (.iastore, 1) := dk_get _ da_cX5_keeps_1 5 _ _ _ rfl
theorem dX5_keeps_98 : decode cX5_keeps 98 = .ok (.iinc 2 1, 3) := dk_get _ da_cX5_keeps_1 6 _ _ _ rfl
theorem dX5_keeps_101 : decode cX5_keeps 101 = .ok (.goto (-57), 3) := dk_get _ da_cX5_keeps_1 7 _ _ _ rfl
theorem dX5_keeps_104 : decode cX5_keeps 104 = .ok (.iinc 1 1, 3) := dk_get _ da_cX5_keeps_1 8 _ _ _ rfl
theorem dX5_keeps_107 : decode cX5_keeps 107 = .ok (.goto (-97), 3) := dk_get _ da_cX5_keeps_1 9 _ _ _ rfl
theorem dX5_keeps_110 : decode cX5_keeps 110 = .ok (.return_, 1) := dk_get _ da_cX5_keeps_1 10 _ _ _ rfl
theorem mi_wsX5_others_wsX5_others_r1 : ∀ w ∈ wsX5_others_r1, w ∈ wsX5_others := fun _ h => (List.mem_cons_of_mem _ (List.mem_append_left _ (List.mem_append_left _ h)))
theorem mi_wsX5_others_wsX5_others_r2 : ∀ w ∈ wsX5_others_r2, w ∈ wsX5_others := fun _ h => (List.mem_cons_of_mem _ (List.mem_append_left _ (List.mem_append_right _ h)))
theorem mi_wsX5_others_wsX50 : ∀ w ∈ wsX50, w ∈ wsX5_others := fun _ h => (List.mem_cons_of_mem _ (List.mem_append_right _ h))
set_option maxRecDepth 20000 in
theorem ggX5_others_X5_laysAll : GoodIn wsX5_others wsX5_laysAll := goodIn_k _ [(wsX5_others_r1, [14, 1, 15, 16, 17, 18, 13, 19, 20, 21, 22, 23]), (wsX5_others_r2, [0, 1, 2]), (wsX5_others_r1, [2, 4]), (wsX5_others_r2, [3]), (wsX5_others_r1, [6, 8]), (wsX5_others_r2, [4, 5, 6, 7, 8, 9, 10, 11, 12, 13, 14, 15, 16, 17, 18, 19, 20, 21, 22]), (wsX50, [0, 1, 2, 3, 4, 5, 6, 7, 8, 9, 10, 11, 12, 13, 14, 15, 16, 17, 18, 19, 20, 21, 22, 23, 24, 25, 26, 27, 28, 29])] (gk_c mi_wsX5_others_wsX5_others_r1 (gk_c mi_wsX5_others_wsX5_others_r2 (gk_c mi_wsX5_others_wsX5_others_r1 (gk_c mi_wsX5_others_wsX5_others_r2 (gk_c mi_wsX5_others_wsX5_others_r1 (gk_c mi_wsX5_others_wsX5_others_r2 (gk_c mi_wsX5_others_wsX50 gk_n))))))) rfl (by decide +kernel)
set_option maxRecDepth 20000 in
theorem gX5_others_X5_laysAll : GoodIn wsX5_others (wsV RX5 124 RX5 yX5_laysAll wsX5_laysAll) := goodIn_app (goodIn_k _ [(wsX5_others_r1, [10, 11, 12, 13])] (gk_c mi_wsX5_others_wsX5_others_r1 gk_n) rfl (by decide +kernel)) ggX5_others_X5_laysAll
def dt_cX5_others_0 : List (Nat × Instr × Nat) := [(0, .aload_n 0, 1), (1, .aload_n 0, 1), (2, .getfield 13, 3), (5, .invokevirtual 124, 3), (8, .iconst 0, 1), (9, .istore_n 1, 1), (10, .iconst 0, 1), (11, .istore_n 2, 1), (12, .iload_n 2, 1), (13, .aload_n 0, 1), (14, .getfield 101, 3), (17, .if_icmp .ge 141, 3), (20, .aload_n 0, 1), (21, .getfield 17, 3), (24, .iload_n 2, 1), (25, .iaload, 1), (26, .aload_n 0, 1), (27, .getfield 47, 3), (30, .iload_n 2, 1), (31, .iaload, 1), (32, .if_icmp .ne 22, 3), (35, .aload_n 0, 1), (36, .getfield 20, 3), (39, .iload_n 2, 1), (40, .iaload, 1), (41, .aload_n 0, 1), (42, .getfield 50, 3), (45, .iload_n 2, 1), (46, .iaload, 1), (47, .if_icmp .ne 7, 3), (50, .iconst 1, 1), (51, .goto 4, 3), (54, .iconst 0, 1), (55, .istore_n 3, 1), (56, .iconst 0, 1), (57, .istore 4, 2), (59, .iload 4, 2), (61, .aload_n 0, 1), (62, .getfield 17, 3), (65, .iload_n 2, 1), (66, .iaload, 1), (67, .if_icmp .ge 73, 3), (70, .iload_n 3, 1), (71, .ifCond .eq 69, 3), (74, .aload_n 0, 1), (75, .getfield 26, 3), (78, .bipush 6, 2), (80, .iload_n 2, 1), (81, .imul, 1), (82, .iload 4, 2), (84, .iadd, 1), (85, .iaload, 1), (86, .aload_n 0, 1), (87, .getfield 53, 3), (90, .bipush 6, 2), (92, .iload_n 2, 1), (93, .imul, 1), (94, .iload 4, 2), (96, .iadd, 1), (97, .iaload, 1)]
theorem da_cX5_others_0 : dk_all cX5_others dt_cX5_others_0 = true := by decide +kernel
theorem dX5_others_0 : decode cX5_others 0 = .ok (.aload_n 0, 1) := dk_get _ da_cX5_others_0 0 _ _ _ rfl
theorem dX5_others_1 : decode cX5_others 1 = .ok (.aload_n 0, 1) := dk_get _ da_cX5_others_0 1 _ _ _ rfl
theorem dX5_others_2 : decode cX5_others 2 = .ok (.getfield 13, 3) := dk_get _ da_cX5_others_0 2 _ _ _ rfl
theorem dX5_others_5 : decode cX5_others 5 = .ok (.invokevirtual 124, 3) := dk_get _ da_cX5_others_0 3 _ _ _ rfl
theorem dX5_others_8 : decode cX5_others 8 = .ok (.iconst 0, 1) := dk_get _ da_cX5_others_0 4 _ _ _ rfl
theorem dX5_others_9 : decode cX5_others 9 = .ok (.istore_n 1, 1) := dk_get _ da_cX5_others_0 5 _ _ _ rfl
theorem dX5_others_10 : decode cX5_others 10 = .ok (.iconst 0, 1) := dk_get _ da_cX5_others_0 6 _ _ _ rfl
theorem dX5_others_11 : decode cX5_others 11 = .ok (.istore_n 2, 1) := dk_get _ da_cX5_others_0 7 _ _ _ rfl
theorem dX5_others_12 : decode cX5_others 12 = .ok (.iload_n 2, 1) := dk_get _ da_cX5_others_0 8 _ _ _ rfl
theorem dX5_others_13 : decode cX5_others 13 = .ok (.aload_n 0, 1) := dk_get _ da_cX5_others_0 9 _ _ _ rfl
theorem dX5_others_14 : decode cX5_others 14 = .ok (.getfield 101, 3) := dk_get _ da_cX5_others_0 10 _ _ _ rfl
theorem dX5_others_17 : decode cX5_others 17 = .ok (.if_icmp .ge 141, 3) := dk_get _ da_cX5_others_0 11 _ _ _ rfl
theorem dX5_others_20 : decode cX5_others 20 = .ok (.aload_n 0, 1) := dk_get _ da_cX5_others_0 12 _ _ _ rfl
theorem dX5_others_21 : decode cX5_others 21 = .ok (.getfield 17, 3) := dk_get _ da_cX5_others_0 13 _ _ _ rfl
theorem dX5_others_24 : decode cX5_others 24 = .ok (.iload_n 2, 1) := dk_get _ da_cX5_others_0 14 _ _ _ rfl
theorem dX5_others_25 : decode cX5_others 25 = .ok (.iaload, 1) := dk_get _ da_cX5_others_0 15 _ _ _ rfl
theorem dX5_others_26 : decode cX5_others 26 = .ok (.aload_n 0, 1) := dk_get _ da_cX5_others_0 16 _ _ _ rfl
theorem dX5_others_27 : decode cX5_others 27 = .ok (.getfield 47, 3) := dk_get _ da_cX5_others_0 17 _ _ _ rfl
theorem dX5_others_30 : decode cX5_others 30 = .ok (.iload_n 2, 1) := dk_get _ da_cX5_others_0 18 _ _ _ rfl
theorem dX5_others_31 : decode cX5_others 31 = .ok (.iaload, 1) := dk_get _ da_cX5_others_0 19 _ _ _ rfl
theorem dX5_others_32 : decode cX5_others 32 = .ok (.if_icmp .ne 22, 3) := dk_get _ da_cX5_others_0 20 _ _ _ rfl
theorem dX5_others_35 : decode cX5_others 35 = .ok (.aload_n 0, 1) := dk_get _ da_cX5_others_0 21 _ _ _ rfl
theorem dX5_others_36 : decode cX5_others 36 = .ok (.getfield 20, 3) := dk_get _ da_cX5_others_0 22 _ _ _ rfl
theorem dX5_others_39 : decode cX5_others 39 = .ok (.iload_n 2, 1) := dk_get _ da_cX5_others_0 23 _ _ _ rfl
theorem dX5_others_40 : decode cX5_others 40 = .ok (.iaload, 1) := dk_get _ da_cX5_others_0 24 _ _ _ rfl
theorem dX5_others_41 : decode cX5_others 41 = .ok (.aload_n 0, 1) := dk_get _ da_cX5_others_0 25 _ _ _ rfl
theorem dX5_others_42 : decode cX5_others 42 = .ok (.getfield 50, 3) := dk_get _ da_cX5_others_0 26 _ _ _ rfl
theorem dX5_others_45 : decode cX5_others 45 = .ok (.iload_n 2, 1) := dk_get _ da_cX5_others_0 27 _ _ _ rfl
theorem dX5_others_46 : decode cX5_others 46 = .ok (.iaload, 1) := dk_get _ da_cX5_others_0 28 _ _ _ rfl
theorem dX5_others_47 : decode cX5_others 47 = .ok (.if_icmp .ne 7, 3) := dk_get _ da_cX5_others_0 29 _ _ _ rfl
theorem dX5_others_50 : decode cX5_others 50 = .ok (.iconst 1, 1) := dk_get _ da_cX5_others_0 30 _ _ _ rfl
theorem dX5_others_51 : decode cX5_others 51 = .ok (.goto 4, 3) := dk_get _ da_cX5_others_0 31 _ _ _ rfl
theorem dX5_others_54 : decode cX5_others 54 = .ok (.iconst 0, 1) := dk_get _ da_cX5_others_0 32 _ _ _ rfl
theorem dX5_others_55 : decode cX5_others 55 = .ok (.istore_n 3, 1) := dk_get _ da_cX5_others_0 33 _ _ _ rfl
theorem dX5_others_56 : decode cX5_others 56 = .ok (.iconst 0, 1) := dk_get _ da_cX5_others_0 34 _ _ _ rfl
theorem dX5_others_57 : decode cX5_others 57 = .ok (.istore 4, 2) := dk_get _ da_cX5_others_0 35 _ _ _ rfl
theorem dX5_others_59 : decode cX5_others 59 = .ok (.iload 4, 2) := dk_get _ da_cX5_others_0 36 _ _ _ rfl
theorem dX5_others_61 : decode cX5_others 61 = .ok (.aload_n 0, 1) := dk_get _ da_cX5_others_0 37 _ _ _ rfl
theorem dX5_others_62 : decode cX5_others 62 = .ok (.getfield 17, 3) := dk_get _ da_cX5_others_0 38 _ _ _ rfl
theorem dX5_others_65 : decode cX5_others 65 = .ok (.iload_n 2, 1) := dk_get _ da_cX5_others_0 39 _ _ _ rfl
theorem dX5_others_66 : decode cX5_others 66 = .ok (.iaload, 1) := dk_get _ da_cX5_others_0 40 _ _ _ rfl
theorem dX5_others_67 : decode cX5_others 67 = .ok (.if_icmp .ge 73, 3) := dk_get _ da_cX5_others_0 41 _ _ _ rfl
theorem dX5_others_70 : decode cX5_others 70 = .ok (.iload_n 3, 1) := dk_get _ da_cX5_others_0 42 _ _ _ rfl
theorem dX5_others_71 : decode cX5_others 71 = .ok (.ifCond .eq 69, 3) := dk_get _ da_cX5_others_0 43 _ _ _ rfl
theorem dX5_others_74 : decode cX5_others 74 = .ok (.aload_n 0, 1) := dk_get _ da_cX5_others_0 44 _ _ _ rfl
theorem dX5_others_75 : decode cX5_others 75 = .ok (.getfield 26, 3) := dk_get _ da_cX5_others_0 45 _ _ _ rfl
theorem dX5_others_78 : decode cX5_others 78 = .ok (.bipush 6, 2) := dk_get _ da_cX5_others_0 46 _ _ _ rfl
theorem dX5_others_80 : decode cX5_others 80 = .ok (.iload_n 2, 1) := dk_get _ da_cX5_others_0 47 _ _ _ rfl
theorem dX5_others_81 : decode cX5_others 81 = .ok (.imul, 1) := dk_get _ da_cX5_others_0 48 _ _ _ rfl
theorem dX5_others_82 : decode cX5_others 82 = .ok (.iload 4, 2) := dk_get _ da_cX5_others_0 49 _ _ _ rfl
theorem dX5_others_84 : decode cX5_others 84 = .ok (.iadd, 1) := dk_get _ da_cX5_others_0 50 _ _ _ rfl
theorem dX5_others_85 : decode cX5_others 85 = .ok (.iaload, 1) := dk_get _ da_cX5_others_0 51 _ _ _ rfl
theorem dX5_others_86 : decode cX5_others 86 = .ok (.aload_n 0, 1) := dk_get _ da_cX5_others_0 52 _ _ _ rfl
theorem dX5_others_87 : decode cX5_others 87 = .ok (.getfield 53, 3) := dk_get _ da_cX5_others_0 53 _ _ _ rfl
theorem dX5_others_90 : decode cX5_others 90 = .ok (.bipush 6, 2) := dk_get _ da_cX5_others_0 54 _ _ _ rfl
theorem dX5_others_92 : decode cX5_others 92 = .ok (.iload_n 2, 1) := dk_get _ da_cX5_others_0 55 _ _ _ rfl
theorem dX5_others_93 : decode cX5_others 93 = .ok (.imul, 1) := dk_get _ da_cX5_others_0 56 _ _ _ rfl
theorem dX5_others_94 : decode cX5_others 94 = .ok (.iload 4, 2) := dk_get _ da_cX5_others_0 57 _ _ _ rfl
theorem dX5_others_96 : decode cX5_others 96 = .ok (.iadd, 1) := dk_get _ da_cX5_others_0 58 _ _ _ rfl
theorem dX5_others_97 : decode cX5_others 97 = .ok (.iaload, 1) := dk_get _ da_cX5_others_0 59 _ _ _ rfl
def dt_cX5_others_1 : List (Nat × Instr × Nat) := [(98, .if_icmp .ne 34, 3), (101, .aload_n 0, 1), (102, .getfield 29, 3), (105, .bipush 6, 2), (107, .iload_n 2, 1), (108, .imul, 1), (109, .iload 4, 2), (111, .iadd, 1), (112, .iaload, 1), (113, .aload_n 0, 1), (114, .getfield 56, 3), (117, .bipush 6, 2), (119, .iload_n 2, 1), (120, .imul, 1), (121, .iload 4, 2), (123, .iadd, 1), (124, .iaload, 1), (125, .if_icmp .ne 7, 3), (128, .iconst 1, 1), (129, .goto 4, 3), (132, .iconst 0, 1), (133, .istore_n 3, 1), (134, .iinc 4 1, 3), (137, .goto (-78), 3), (140, .iload_n 1, 1), (141, .iload_n 3, 1), (142, .ifCond .eq 7, 3), (145, .iconst 0, 1), (146, .goto 4, 3), (149, .iconst 1, 1), (150, .iadd, 1), (151, .istore_n 1, 1), (152, .iinc 2 1, 3), (155, .goto (-143), 3), (158, .iload_n 1, 1), (159, .ireturn, 1)]
theorem da_cX5_others_1 : dk_all cX5_others dt_cX5_others_1 = true := by decide +kernel
theorem dX5_others_98 : decode cX5_others 98 = .ok (.if_icmp .ne 34, 3) := dk_get _ da_cX5_others_1 0 _ _ _ rfl
theorem dX5_others_101 : decode cX5_others 101 = .ok (.aload_n 0, 1) := dk_get _ da_cX5_others_1 1 _ _ _ rfl
theorem dX5_others_102 : decode cX5_others 102 = .ok (.getfield 29, 3) := dk_get _ da_cX5_others_1 2 _ _ _ rfl
theorem dX5_others_105 : decode cX5_others 105 = .ok (.bipush 6, 2) := dk_get _ da_cX5_others_1 3 _ _ _ rfl
theorem dX5_others_107 : decode cX5_others 107 = .ok (.iload_n 2, 1) := dk_get _ da_cX5_others_1 4 _ _ _ rfl
theorem dX5_others_108 : decode cX5_others 108 = .ok (.imul, 1) := dk_get _ da_cX5_others_1 5 _ _ _ rfl
theorem dX5_others_109 : decode cX5_others 109 = .ok (.iload 4, 2) := dk_get _ da_cX5_others_1 6 _ _ _ rfl
theorem dX5_others_111 : decode cX5_others 111 = .ok (.iadd, 1) := dk_get _ da_cX5_others_1 7 _ _ _ rfl
theorem dX5_others_112 : decode cX5_others 112 = .ok (.iaload, 1) := dk_get _ da_cX5_others_1 8 _ _ _ rfl
theorem dX5_others_113 : decode cX5_others 113 = .ok (.aload_n 0, 1) := dk_get _ da_cX5_others_1 9 _ _ _ rfl
theorem dX5_others_114 : decode cX5_others 114 = .ok (.getfield 56, 3) := dk_get _ da_cX5_others_1 10 _ _ _ rfl
theorem dX5_others_117 : decode cX5_others 117 = .ok (.bipush 6, 2) := dk_get _ da_cX5_others_1 11 _ _ _ rfl
theorem dX5_others_119 : decode cX5_others 119 = .ok (.iload_n 2, 1) := dk_get _ da_cX5_others_1 12 _ _ _ rfl
theorem dX5_others_120 : decode cX5_others 120 = .ok (.imul, 1) := dk_get _ da_cX5_others_1 13 _ _ _ rfl
theorem dX5_others_121 : decode cX5_others 121 = .ok (.iload 4, 2) := dk_get _ da_cX5_others_1 14 _ _ _ rfl
theorem dX5_others_123 : decode cX5_others 123 = .ok (.iadd, 1) := dk_get _ da_cX5_others_1 15 _ _ _ rfl
theorem dX5_others_124 : decode cX5_others 124 = .ok (.iaload, 1) := dk_get _ da_cX5_others_1 16 _ _ _ rfl
theorem dX5_others_125 : decode cX5_others 125 = .ok (.if_icmp .ne 7, 3) := dk_get _ da_cX5_others_1 17 _ _ _ rfl
theorem dX5_others_128 : decode cX5_others 128 = .ok (.iconst 1, 1) := dk_get _ da_cX5_others_1 18 _ _ _ rfl
theorem dX5_others_129 : decode cX5_others 129 = .ok (.goto 4, 3) := dk_get _ da_cX5_others_1 19 _ _ _ rfl
theorem dX5_others_132 : decode cX5_others 132 = .ok (.iconst 0, 1) := dk_get _ da_cX5_others_1 20 _ _ _ rfl
theorem dX5_others_133 : decode cX5_others 133 = .ok (.istore_n 3, 1) := dk_get _ da_cX5_others_1 21 _ _ _ rfl
theorem dX5_others_134 : decode cX5_others 134 = .ok (.iinc 4 1, 3) := dk_get _ da_cX5_others_1 22 _ _ _ rfl
theorem dX5_others_137 : decode cX5_others 137 = .ok (.goto (-78), 3) := dk_get _ da_cX5_others_1 23 _ _ _ rfl
theorem dX5_others_140 : decode cX5_others 140 = .ok (.iload_n 1, 1) := dk_get _ da_cX5_others_1 24 _ _ _ rfl
theorem dX5_others_141 : decode cX5_others 141 = .ok (.iload_n 3, 1) := dk_get _ da_cX5_others_1 25 _ _ _ rfl
theorem dX5_others_142 : decode cX5_others 142 = .ok (.ifCond .eq 7, 3) := dk_get _ da_cX5_others_1 26 _ _ _ rfl
theorem dX5_others_145 : decode cX5_others 145 = .ok (.iconst 0, 1) := dk_get _ da_cX5_others_1 27 _ _ _ rfl
theorem dX5_others_146 : decode cX5_others 146 = .ok (.goto 4, 3) := dk_get _ da_cX5_others_1 28 _ _ _ rfl
theorem dX5_others_149 : decode cX5_others 149 = .ok (.iconst 1, 1) := dk_get _ da_cX5_others_1 29 _ _ _ rfl
theorem dX5_others_150 : decode cX5_others 150 = .ok (.iadd, 1) := dk_get _ da_cX5_others_1 30 _ _ _ rfl
theorem dX5_others_151 : decode cX5_others 151 = .ok (.istore_n 1, 1) := dk_get _ da_cX5_others_1 31 _ _ _ rfl
theorem dX5_others_152 : decode cX5_others 152 = .ok (.iinc 2 1, 3) := dk_get _ da_cX5_others_1 32 _ _ _ rfl
theorem dX5_others_155 : decode cX5_others 155 = .ok (.goto (-143), 3) := dk_get _ da_cX5_others_1 33 _ _ _ rfl
theorem dX5_others_158 : decode cX5_others 158 = .ok (.iload_n 1, 1) := dk_get _ da_cX5_others_1 34 _ _ _ rfl
theorem dX5_others_159 : decode cX5_others 159 = .ok (.ireturn, 1) := dk_get _ da_cX5_others_1 35 _ _ _ rfl
theorem mi_wsX5_set_wsX5_set_r1 : ∀ w ∈ wsX5_set_r1, w ∈ wsX5_set := fun _ h => (List.mem_cons_of_mem _ (List.mem_append_left _ (List.mem_append_left _ h)))
theorem mi_wsX5_set_wsX50 : ∀ w ∈ wsX50, w ∈ wsX5_set := fun _ h => (List.mem_cons_of_mem _ (List.mem_append_right _ h))
set_option maxRecDepth 20000 in
theorem ggX5_set_X5_isPlace : GoodIn wsX5_set wsX5_isPlace := goodIn_k _ [(wsX5_set_r1, [6, 7, 8, 9, 5, 10]), (wsX50, [0, 1, 2, 3, 4, 5, 6, 7, 8, 9, 10, 11, 12, 13, 14, 15, 16, 17, 18, 19, 20, 21, 22, 23, 24, 25, 26, 27, 28, 29])] (gk_c mi_wsX5_set_wsX5_set_r1 (gk_c mi_wsX5_set_wsX50 gk_n)) rfl (by decide +kernel)
set_option maxRecDepth 20000 in
theorem gX5_set_X5_isPlace : GoodIn wsX5_set (wsV RX5 128 RX5 yX5_isPlace wsX5_isPlace) := goodIn_app (goodIn_k _ [(wsX5_set_r1, [2, 3, 4, 5])] (gk_c mi_wsX5_set_wsX5_set_r1 gk_n) rfl (by decide +kernel)) ggX5_set_X5_isPlace
set_option maxRecDepth 20000 in
theorem ggX5_set_X5_isValue : GoodIn wsX5_set wsX5_isValue := goodIn_k _ [(wsX5_set_r1, [13, 8, 9, 5, 10])] (gk_c mi_wsX5_set_wsX5_set_r1 gk_n) rfl (by decide +kernel)
set_option maxRecDepth 20000 in
theorem gX5_set_X5_isValue : GoodIn wsX5_set (va_wsS RX5 132 yX5_isValue wsX5_isValue) := goodIn_app (goodIn_k _ [(wsX5_set_r1, [11, 12, 5])] (gk_c mi_wsX5_set_wsX5_set_r1 gk_n) rfl (by decide +kernel)) ggX5_set_X5_isValue
theorem mi_wsX5_set_wsX5_set_r2 : ∀ w ∈ wsX5_set_r2, w ∈ wsX5_set := fun _ h => (List.mem_cons_of_mem _ (List.mem_append_left _ (List.mem_append_right _ (List.mem_append_left _ h))))
theorem mi_wsX5_set_wsX5_set_r3 : ∀ w ∈ wsX5_set_r3, w ∈ wsX5_set := fun _ h => (List.mem_cons_of_mem _ (List.mem_append_left _ (List.mem_append_right _ (List.mem_append_right _ h))))
set_option maxRecDepth 20000 in
theorem ggX5_set_X5_keeps : GoodIn wsX5_set wsX5_keeps := goodIn_k _ [(wsX5_set_r1, [17, 18, 19, 20, 21, 22, 23]), (wsX5_set_r2, [0, 1, 2, 3, 4, 5, 6]), (wsX5_set_r1, [5]), (wsX5_set_r2, [7]), (wsX5_set_r1, [7]), (wsX5_set_r2, [8, 9, 10, 11, 12, 13]), (wsX5_set_r1, [1]), (wsX5_set_r2, [14, 15, 16, 17, 18, 19, 20, 21, 22, 23]), (wsX5_set_r3, [0, 1, 2, 3, 4, 5, 6, 7, 8, 9, 10, 11, 12, 13]), (wsX50, [0, 1, 2, 3, 4, 5, 6, 7, 8, 9, 10, 11, 12, 13, 14, 15, 16, 17, 18, 19, 20, 21, 22, 23, 24, 25, 26, 27, 28, 29])] (gk_c mi_wsX5_set_wsX5_set_r1 (gk_c mi_wsX5_set_wsX5_set_r2 (gk_c mi_wsX5_set_wsX5_set_r1 (gk_c mi_wsX5_set_wsX5_set_r2 (gk_c mi_wsX5_set_wsX5_set_r1 (gk_c mi_wsX5_set_wsX5_set_r2 (gk_c mi_wsX5_set_wsX5_set_r1 (gk_c mi_wsX5_set_wsX5_set_r2 (gk_c mi_wsX5_set_wsX5_set_r3 (gk_c mi_wsX5_set_wsX50 gk_n)))))))))) rfl (by decide +kernel)
set_option maxRecDepth 20000 in
theorem gX5_set_X5_keeps : GoodIn wsX5_set (wsV RX5 135 RX5 yX5_keeps wsX5_keeps) := goodIn_app (goodIn_k _ [(wsX5_set_r1, [14, 15, 16, 5])] (gk_c mi_wsX5_set_wsX5_set_r1 gk_n) rfl (by decide +kernel)) ggX5_set_X5_keeps
set_option maxRecDepth 20000 in
theorem ggX5_set_X5_others : GoodIn wsX5_set wsX5_others := goodIn_k _ [(wsX5_set_r3, [17]), (wsX5_set_r1, [18, 19, 21, 20, 23, 22]), (wsX5_set_r2, [1, 0, 3, 2, 4, 5, 6]), (wsX5_set_r1, [5]), (wsX5_set_r2, [7]), (wsX5_set_r1, [7]), (wsX5_set_r2, [8, 9, 10, 11, 12, 13]), (wsX5_set_r1, [1]), (wsX5_set_r2, [14, 15, 16, 17, 18, 19, 20, 21, 22, 23]), (wsX5_set_r3, [0, 1, 2, 3, 4, 5, 6, 7, 8, 9, 10, 11, 12, 13]), (wsX50, [0, 1, 2, 3, 4, 5, 6, 7, 8, 9, 10, 11, 12, 13, 14, 15, 16, 17, 18, 19, 20, 21, 22, 23, 24, 25, 26, 27, 28, 29])] (gk_c mi_wsX5_set_wsX5_set_r3 (gk_c mi_wsX5_set_wsX5_set_r1 (gk_c mi_wsX5_set_wsX5_set_r2 (gk_c mi_wsX5_set_wsX5_set_r1 (gk_c mi_wsX5_set_wsX5_set_r2 (gk_c mi_wsX5_set_wsX5_set_r1 (gk_c mi_wsX5_set_wsX5_set_r2 (gk_c mi_wsX5_set_wsX5_set_r1 (gk_c mi_wsX5_set_wsX5_set_r2 (gk_c mi_wsX5_set_wsX5_set_r3 (gk_c mi_wsX5_set_wsX50 gk_n))))))))))) rfl (by decide +kernel)
set_option maxRecDepth 20000 in
theorem gX5_set_X5_others : GoodIn wsX5_set (wsV RX5 138 RX5 yX5_others wsX5_others) := goodIn_app (goodIn_k _ [(wsX5_set_r3, [14, 15, 16]), (wsX5_set_r1, [5])] (gk_c mi_wsX5_set_wsX5_set_r3 (gk_c mi_wsX5_set_wsX5_set_r1 gk_n)) rfl (by decide +kernel)) ggX5_set_X5_others
def dt_cX5_set_0 : List (Nat × Instr × Nat) := [(0, .aload_n 0, 1), (1, .iconst 0, 1), (2, .putfield 77, 3), (5, .aload_n 0, 1), (6, .iload_n 1, 1), (7, .invokevirtual 128, 3), (10, .ifCond .eq 10, 3), (13, .iload_n 2, 1), (14, .invokestatic 132, 3), (17, .ifCond .ne 5, 3), (20, .iconst (-1), 1), (21, .ireturn, 1), (22, .aload_n 0, 1), (23, .invokevirtual 135, 3), (26, .aload_n 0, 1), (27, .getfield 7, 3), (30, .iload_n 1, 1), (31, .iload_n 2, 1), (32, .iastore, 1), (33, .aload_n 0, 1), (34, .invokevirtual 138, 3), (37, .ireturn, 1)]
theorem da_cX5_set_0 : dk_all cX5_set dt_cX5_set_0 = true := by decide +kernel
theorem dX5_set_0 : decode cX5_set 0 = .ok (.aload_n 0, 1) := dk_get _ da_cX5_set_0 0 _ _ _ rfl
theorem dX5_set_1 : decode cX5_set 1 = .ok (.iconst 0, 1) := dk_get _ da_cX5_set_0 1 _ _ _ rfl
theorem dX5_set_2 : decode cX5_set 2 = .ok (.putfield 77, 3) := dk_get _ da_cX5_set_0 2 _ _ _ rfl
theorem dX5_set_5 : decode cX5_set 5 = .ok (.aload_n 0, 1) := dk_get _ da_cX5_set_0 3 _ _ _ rfl
theorem dX5_set_6 : decode cX5_set 6 = .ok (.iload_n 1, 1) := dk_get _ da_cX5_set_0 4 _ _ _ rfl
theorem dX5_set_7 : decode cX5_set 7 = .ok (.invokevirtual 128, 3) := dk_get _ da_cX5_set_0 5 _ _ _ rfl
theorem dX5_set_10 : decode cX5_set 10 = .ok (.ifCond .eq 10, 3) := dk_get _ da_cX5_set_0 6 _ _ _ rfl
theorem dX5_set_13 : decode cX5_set 13 = .ok (.iload_n 2, 1) := dk_get _ da_cX5_set_0 7 _ _ _ rfl
theorem dX5_set_14 : decode cX5_set 14 = .ok (.invokestatic 132, 3) := dk_get _ da_cX5_set_0 8 _ _ _ rfl
theorem dX5_set_17 : decode cX5_set 17 = .ok (.ifCond .ne 5, 3) := dk_get _ da_cX5_set_0 9 _ _ _ rfl
theorem dX5_set_20 : decode cX5_set 20 = .ok (.iconst (-1), 1) := dk_get _ da_cX5_set_0 10 _ _ _ rfl
theorem dX5_set_21 : decode cX5_set 21 = .ok (.ireturn, 1) := dk_get _ da_cX5_set_0 11 _ _ _ rfl
theorem dX5_set_22 : decode cX5_set 22 = .ok (.aload_n 0, 1) := dk_get _ da_cX5_set_0 12 _ _ _ rfl
theorem dX5_set_23 : decode cX5_set 23 = .ok (.invokevirtual 135, 3) := dk_get _ da_cX5_set_0 13 _ _ _ rfl
theorem dX5_set_26 : decode cX5_set 26 = .ok (.aload_n 0, 1) := dk_get _ da_cX5_set_0 14 _ _ _ rfl
theorem dX5_set_27 : decode cX5_set 27 = .ok (.getfield 7, 3) := dk_get _ da_cX5_set_0 15 _ _ _ rfl
theorem dX5_set_30 : decode cX5_set 30 = .ok (.iload_n 1, 1) := dk_get _ da_cX5_set_0 16 _ _ _ rfl
theorem dX5_set_31 : decode cX5_set 31 = .ok (.iload_n 2, 1) := dk_get _ da_cX5_set_0 17 _ _ _ rfl
theorem dX5_set_32 : decode cX5_set 32 = .ok (.iastore, 1) := dk_get _ da_cX5_set_0 18 _ _ _ rfl
theorem dX5_set_33 : decode cX5_set 33 = .ok (.aload_n 0, 1) := dk_get _ da_cX5_set_0 19 _ _ _ rfl
theorem dX5_set_34 : decode cX5_set 34 = .ok (.invokevirtual 138, 3) := dk_get _ da_cX5_set_0 20 _ _ _ rfl
theorem dX5_set_37 : decode cX5_set 37 = .ok (.ireturn, 1) := dk_get _ da_cX5_set_0 21 _ _ _ rfl
theorem mi_wsX5_fill_wsX5_fill_r1 : ∀ w ∈ wsX5_fill_r1, w ∈ wsX5_fill := fun _ h => (List.mem_cons_of_mem _ (List.mem_append_left _ (List.mem_append_left _ h)))
theorem mi_wsX5_fill_wsX50 : ∀ w ∈ wsX50, w ∈ wsX5_fill := fun _ h => (List.mem_cons_of_mem _ (List.mem_append_right _ h))
set_option maxRecDepth 20000 in
theorem ggX5_fill_X5_isRange : GoodIn wsX5_fill wsX5_isRange := goodIn_k _ [(wsX5_fill_r1, [6, 7]), (wsX50, [0, 1, 2, 3, 4, 5, 6, 7, 8, 9, 10, 11, 12, 13, 14, 15, 16, 17, 18, 19, 20, 21, 22, 23, 24, 25, 26, 27, 28, 29])] (gk_c mi_wsX5_fill_wsX5_fill_r1 (gk_c mi_wsX5_fill_wsX50 gk_n)) rfl (by decide +kernel)
set_option maxRecDepth 20000 in
theorem gX5_fill_X5_isRange : GoodIn wsX5_fill (wsV RX5 142 RX5 yX5_isRange wsX5_isRange) := goodIn_app (goodIn_k _ [(wsX5_fill_r1, [2, 3, 4, 5])] (gk_c mi_wsX5_fill_wsX5_fill_r1 gk_n) rfl (by decide +kernel)) ggX5_fill_X5_isRange
set_option maxRecDepth 20000 in
theorem ggX5_fill_X5_isValue : GoodIn wsX5_fill wsX5_isValue := goodIn_k _ [(wsX5_fill_r1, [10, 11, 12, 5, 13])] (gk_c mi_wsX5_fill_wsX5_fill_r1 gk_n) rfl (by decide +kernel)
set_option maxRecDepth 20000 in
theorem gX5_fill_X5_isValue : GoodIn wsX5_fill (va_wsS RX5 132 yX5_isValue wsX5_isValue) := goodIn_app (goodIn_k _ [(wsX5_fill_r1, [8, 9, 5])] (gk_c mi_wsX5_fill_wsX5_fill_r1 gk_n) rfl (by decide +kernel)) ggX5_fill_X5_isValue
theorem mi_wsX5_fill_wsX5_fill_r2 : ∀ w ∈ wsX5_fill_r2, w ∈ wsX5_fill := fun _ h => (List.mem_cons_of_mem _ (List.mem_append_left _ (List.mem_append_right _ (List.mem_append_left _ h))))
theorem mi_wsX5_fill_wsX5_fill_r3 : ∀ w ∈ wsX5_fill_r3, w ∈ wsX5_fill := fun _ h => (List.mem_cons_of_mem _ (List.mem_append_left _ (List.mem_append_right _ (List.mem_append_right _ h))))
set_option maxRecDepth 20000 in
theorem ggX5_fill_X5_keeps : GoodIn wsX5_fill wsX5_keeps := goodIn_k _ [(wsX5_fill_r1, [17, 18, 19, 20, 21, 22, 23]), (wsX5_fill_r2, [0, 1, 2, 3, 4, 5, 6]), (wsX5_fill_r1, [5]), (wsX5_fill_r2, [7]), (wsX5_fill_r1, [7]), (wsX5_fill_r2, [8, 9, 10, 11, 12, 13]), (wsX5_fill_r1, [1]), (wsX5_fill_r2, [14, 15, 16, 17, 18, 19, 20, 21, 22, 23]), (wsX5_fill_r3, [0, 1, 2, 3, 4, 5, 6, 7, 8, 9, 10, 11, 12, 13]), (wsX50, [0, 1, 2, 3, 4, 5, 6, 7, 8, 9, 10, 11, 12, 13, 14, 15, 16, 17, 18, 19, 20, 21, 22, 23, 24, 25, 26, 27, 28, 29])] (gk_c mi_wsX5_fill_wsX5_fill_r1 (gk_c mi_wsX5_fill_wsX5_fill_r2 (gk_c mi_wsX5_fill_wsX5_fill_r1 (gk_c mi_wsX5_fill_wsX5_fill_r2 (gk_c mi_wsX5_fill_wsX5_fill_r1 (gk_c mi_wsX5_fill_wsX5_fill_r2 (gk_c mi_wsX5_fill_wsX5_fill_r1 (gk_c mi_wsX5_fill_wsX5_fill_r2 (gk_c mi_wsX5_fill_wsX5_fill_r3 (gk_c mi_wsX5_fill_wsX50 gk_n)))))))))) rfl (by decide +kernel)
set_option maxRecDepth 20000 in
theorem gX5_fill_X5_keeps : GoodIn wsX5_fill (wsV RX5 135 RX5 yX5_keeps wsX5_keeps) := goodIn_app (goodIn_k _ [(wsX5_fill_r1, [14, 15, 16, 5])] (gk_c mi_wsX5_fill_wsX5_fill_r1 gk_n) rfl (by decide +kernel)) ggX5_fill_X5_keeps
set_option maxRecDepth 20000 in
theorem ggX5_fill_X5_others : GoodIn wsX5_fill wsX5_others := goodIn_k _ [(wsX5_fill_r3, [17]), (wsX5_fill_r1, [18, 19, 21, 20, 23, 22]), (wsX5_fill_r2, [1, 0, 3, 2, 4, 5, 6]), (wsX5_fill_r1, [5]), (wsX5_fill_r2, [7]), (wsX5_fill_r1, [7]), (wsX5_fill_r2, [8, 9, 10, 11, 12, 13]), (wsX5_fill_r1, [1]), (wsX5_fill_r2, [14, 15, 16, 17, 18, 19, 20, 21, 22, 23]), (wsX5_fill_r3, [0, 1, 2, 3, 4, 5, 6, 7, 8, 9, 10, 11, 12, 13]), (wsX50, [0, 1, 2, 3, 4, 5, 6, 7, 8, 9, 10, 11, 12, 13, 14, 15, 16, 17, 18, 19, 20, 21, 22, 23, 24, 25, 26, 27, 28, 29])] (gk_c mi_wsX5_fill_wsX5_fill_r3 (gk_c mi_wsX5_fill_wsX5_fill_r1 (gk_c mi_wsX5_fill_wsX5_fill_r2 (gk_c mi_wsX5_fill_wsX5_fill_r1 (gk_c mi_wsX5_fill_wsX5_fill_r2 (gk_c mi_wsX5_fill_wsX5_fill_r1 (gk_c mi_wsX5_fill_wsX5_fill_r2 (gk_c mi_wsX5_fill_wsX5_fill_r1 (gk_c mi_wsX5_fill_wsX5_fill_r2 (gk_c mi_wsX5_fill_wsX5_fill_r3 (gk_c mi_wsX5_fill_wsX50 gk_n))))))))))) rfl (by decide +kernel)
set_option maxRecDepth 20000 in
theorem gX5_fill_X5_others : GoodIn wsX5_fill (wsV RX5 138 RX5 yX5_others wsX5_others) := goodIn_app (goodIn_k _ [(wsX5_fill_r3, [14, 15, 16]), (wsX5_fill_r1, [5])] (gk_c mi_wsX5_fill_wsX5_fill_r3 (gk_c mi_wsX5_fill_wsX5_fill_r1 gk_n)) rfl (by decide +kernel)) ggX5_fill_X5_others
def dt_cX5_fill_0 : List (Nat × Instr × Nat) := [(0, .aload_n 0, 1), (1, .iconst 0, 1), (2, .putfield 77, 3), (5, .aload_n 0, 1), (6, .iload_n 1, 1), (7, .iload_n 2, 1), (8, .invokevirtual 142, 3), (11, .ifCond .eq 10, 3), (14, .iload_n 3, 1), (15, .invokestatic 132, 3), (18, .ifCond .ne 5, 3), (21, .iconst (-1), 1), (22, .ireturn, 1), (23, .aload_n 0, 1), (24, .invokevirtual 135, 3), (27, .iload_n 1, 1), (28, .istore 4, 2), (30, .iload 4, 2), (32, .iload_n 2, 1), (33, .if_icmp .ge 17, 3), (36, .aload_n 0, 1), (37, .getfield 7, 3), (40, .iload 4, 2), (42, .iload_n 3, 1), (43, .iastore, 1), (44, .iinc 4 1, 3), (47, .goto (-17), 3), (50, .aload_n 0, 1), (51, .invokevirtual 138, 3), (54, .ireturn, 1)]
theorem da_cX5_fill_0 : dk_all cX5_fill dt_cX5_fill_0 = true := by decide +kernel
theorem dX5_fill_0 : decode cX5_fill 0 = .ok (.aload_n 0, 1) := dk_get _ da_cX5_fill_0 0 _ _ _ rfl
theorem dX5_fill_1 : decode cX5_fill 1 = .ok (.iconst 0, 1) := dk_get _ da_cX5_fill_0 1 _ _ _ rfl
theorem dX5_fill_2 : decode cX5_fill 2 = .ok (.putfield 77, 3) := dk_get _ da_cX5_fill_0 2 _ _ _ rfl
theorem dX5_fill_5 : decode cX5_fill 5 = .ok (.aload_n 0, 1) := dk_get _ da_cX5_fill_0 3 _ _ _ rfl
theorem dX5_fill_6 : decode cX5_fill 6 = .ok (.iload_n 1, 1) := dk_get _ da_cX5_fill_0 4 _ _ _ rfl
theorem dX5_fill_7 : decode cX5_fill 7 = .ok (.iload_n 2, 1) := dk_get _ da_cX5_fill_0 5 _ _ _ rfl
theorem dX5_fill_8 : decode cX5_fill 8 = .ok (.invokevirtual 142, 3) := dk_get _ da_cX5_fill_0 6 _ _ _ rfl
theorem dX5_fill_11 : decode cX5_fill 11 = .ok (.ifCond .eq 10, 3) := dk_get _ da_cX5_fill_0 7 _ _ _ rfl
theorem dX5_fill_14 : decode cX5_fill 14 = .ok (.iload_n 3, 1) := dk_get _ da_cX5_fill_0 8 _ _ _ rfl
theorem dX5_fill_15 : decode cX5_fill 15 = .ok (.invokestatic 132, 3) := dk_get _ da_cX5_fill_0 9 _ _ _ rfl
theorem dX5_fill_18 : decode cX5_fill 18 = .ok (.ifCond .ne 5, 3) := dk_get _ da_cX5_fill_0 10 _ _ _ rfl
theorem dX5_fill_21 : decode cX5_fill 21 = .ok (.iconst (-1), 1) := dk_get _ da_cX5_fill_0 11 _ _ _ rfl
theorem dX5_fill_22 : decode cX5_fill 22 = .ok (.ireturn, 1) := dk_get _ da_cX5_fill_0 12 _ _ _ rfl
theorem dX5_fill_23 : decode cX5_fill 23 = .ok (.aload_n 0, 1) := dk_get _ da_cX5_fill_0 13 _ _ _ rfl
theorem dX5_fill_24 : decode cX5_fill 24 = .ok (.invokevirtual 135, 3) := dk_get _ da_cX5_fill_0 14 _ _ _ rfl
theorem dX5_fill_27 : decode cX5_fill 27 = .ok (.iload_n 1, 1) := dk_get _ da_cX5_fill_0 15 _ _ _ rfl
theorem dX5_fill_28 : decode cX5_fill 28 = .ok (.istore 4, 2) := dk_get _ da_cX5_fill_0 16 _ _ _ rfl
theorem dX5_fill_30 : decode cX5_fill 30 = .ok (.iload 4, 2) := dk_get _ da_cX5_fill_0 17 _ _ _ rfl
theorem dX5_fill_32 : decode cX5_fill 32 = .ok (.iload_n 2, 1) := dk_get _ da_cX5_fill_0 18 _ _ _ rfl
theorem dX5_fill_33 : decode cX5_fill 33 = .ok (.if_icmp .ge 17, 3) := dk_get _ da_cX5_fill_0 19 _ _ _ rfl
theorem dX5_fill_36 : decode cX5_fill 36 = .ok (.aload_n 0, 1) := dk_get _ da_cX5_fill_0 20 _ _ _ rfl
theorem dX5_fill_37 : decode cX5_fill 37 = .ok (.getfield 7, 3) := dk_get _ da_cX5_fill_0 21 _ _ _ rfl
theorem dX5_fill_40 : decode cX5_fill 40 = .ok (.iload 4, 2) := dk_get _ da_cX5_fill_0 22 _ _ _ rfl
theorem dX5_fill_42 : decode cX5_fill 42 = .ok (.iload_n 3, 1) := dk_get _ da_cX5_fill_0 23 _ _ _ rfl
theorem dX5_fill_43 : decode cX5_fill 43 = .ok (.iastore, 1) := dk_get _ da_cX5_fill_0 24 _ _ _ rfl
theorem dX5_fill_44 : decode cX5_fill 44 = .ok (.iinc 4 1, 3) := dk_get _ da_cX5_fill_0 25 _ _ _ rfl
theorem dX5_fill_47 : decode cX5_fill 47 = .ok (.goto (-17), 3) := dk_get _ da_cX5_fill_0 26 _ _ _ rfl
theorem dX5_fill_50 : decode cX5_fill 50 = .ok (.aload_n 0, 1) := dk_get _ da_cX5_fill_0 27 _ _ _ rfl
theorem dX5_fill_51 : decode cX5_fill 51 = .ok (.invokevirtual 138, 3) := dk_get _ da_cX5_fill_0 28 _ _ _ rfl
theorem dX5_fill_54 : decode cX5_fill 54 = .ok (.ireturn, 1) := dk_get _ da_cX5_fill_0 29 _ _ _ rfl
def dt_cX5_exchanges_0 : List (Nat × Instr × Nat) := [(0, .aload_n 0, 1), (1, .getfield 7, 3), (4, .iload_n 1, 1), (5, .iaload, 1), (6, .istore_n 3, 1), (7, .aload_n 0, 1), (8, .getfield 7, 3), (11, .iload_n 1, 1), (12, .aload_n 0, 1), (13, .getfield 7, 3), (16, .iload_n 2, 1), (17, .iaload, 1), (18, .iastore, 1), (19, .aload_n 0, 1), (20, .getfield 7, 3), (23, .iload_n 2, 1), (24, .iload_n 3, 1), (25, .iastore, 1), (26, .return_, 1)]
theorem da_cX5_exchanges_0 : dk_all cX5_exchanges dt_cX5_exchanges_0 = true := by decide +kernel
theorem dX5_exchanges_0 : decode cX5_exchanges 0 = .ok (.aload_n 0, 1) := dk_get _ da_cX5_exchanges_0 0 _ _ _ rfl
theorem dX5_exchanges_1 : decode cX5_exchanges 1 = .ok (.getfield 7, 3) := dk_get _ da_cX5_exchanges_0 1 _ _ _ rfl
theorem dX5_exchanges_4 : decode cX5_exchanges 4 = .ok (.iload_n 1, 1) := dk_get _ da_cX5_exchanges_0 2 _ _ _ rfl
theorem dX5_exchanges_5 : decode cX5_exchanges 5 = .ok (.iaload, 1) := dk_get _ da_cX5_exchanges_0 3 _ _ _ rfl
theorem dX5_exchanges_6 : decode cX5_exchanges 6 = .ok (.istore_n 3, 1) := dk_get _ da_cX5_exchanges_0 4 _ _ _ rfl
theorem dX5_exchanges_7 : decode cX5_exchanges 7 = .ok (.aload_n 0, 1) := dk_get _ da_cX5_exchanges_0 5 _ _ _ rfl
theorem dX5_exchanges_8 : decode cX5_exchanges 8 = .ok (.getfield 7, 3) := dk_get _ da_cX5_exchanges_0 6 _ _ _ rfl
theorem dX5_exchanges_11 : decode cX5_exchanges 11 = .ok (.iload_n 1, 1) := dk_get _ da_cX5_exchanges_0 7 _ _ _ rfl
theorem dX5_exchanges_12 : decode cX5_exchanges 12 = .ok (.aload_n 0, 1) := dk_get _ da_cX5_exchanges_0 8 _ _ _ rfl
theorem dX5_exchanges_13 : decode cX5_exchanges 13 = .ok (.getfield 7, 3) := dk_get _ da_cX5_exchanges_0 9 _ _ _ rfl
theorem dX5_exchanges_16 : decode cX5_exchanges 16 = .ok (.iload_n 2, 1) := dk_get _ da_cX5_exchanges_0 10 _ _ _ rfl
theorem dX5_exchanges_17 : decode cX5_exchanges 17 = .ok (.iaload, 1) := dk_get _ da_cX5_exchanges_0 11 _ _ _ rfl
theorem dX5_exchanges_18 : decode cX5_exchanges 18 = .ok (.iastore, 1) := dk_get _ da_cX5_exchanges_0 12 _ _ _ rfl
theorem dX5_exchanges_19 : decode cX5_exchanges 19 = .ok (.aload_n 0, 1) := dk_get _ da_cX5_exchanges_0 13 _ _ _ rfl
theorem dX5_exchanges_20 : decode cX5_exchanges 20 = .ok (.getfield 7, 3) := dk_get _ da_cX5_exchanges_0 14 _ _ _ rfl
theorem dX5_exchanges_23 : decode cX5_exchanges 23 = .ok (.iload_n 2, 1) := dk_get _ da_cX5_exchanges_0 15 _ _ _ rfl
theorem dX5_exchanges_24 : decode cX5_exchanges 24 = .ok (.iload_n 3, 1) := dk_get _ da_cX5_exchanges_0 16 _ _ _ rfl
theorem dX5_exchanges_25 : decode cX5_exchanges 25 = .ok (.iastore, 1) := dk_get _ da_cX5_exchanges_0 17 _ _ _ rfl
theorem dX5_exchanges_26 : decode cX5_exchanges 26 = .ok (.return_, 1) := dk_get _ da_cX5_exchanges_0 18 _ _ _ rfl
theorem mi_wsX5_turn_wsX5_turn_r1 : ∀ w ∈ wsX5_turn_r1, w ∈ wsX5_turn := fun _ h => (List.mem_cons_of_mem _ (List.mem_append_left _ (List.mem_append_left _ h)))
theorem mi_wsX5_turn_wsX50 : ∀ w ∈ wsX50, w ∈ wsX5_turn := fun _ h => (List.mem_cons_of_mem _ (List.mem_append_right _ h))
set_option maxRecDepth 20000 in
theorem ggX5_turn_X5_isRange : GoodIn wsX5_turn wsX5_isRange := goodIn_k _ [(wsX5_turn_r1, [5, 6]), (wsX50, [0, 1, 2, 3, 4, 5, 6, 7, 8, 9, 10, 11, 12, 13, 14, 15, 16, 17, 18, 19, 20, 21, 22, 23, 24, 25, 26, 27, 28, 29])] (gk_c mi_wsX5_turn_wsX5_turn_r1 (gk_c mi_wsX5_turn_wsX50 gk_n)) rfl (by decide +kernel)
set_option maxRecDepth 20000 in
theorem gX5_turn_X5_isRange : GoodIn wsX5_turn (wsV RX5 142 RX5 yX5_isRange wsX5_isRange) := goodIn_app (goodIn_k _ [(wsX5_turn_r1, [1, 2, 3, 4])] (gk_c mi_wsX5_turn_wsX5_turn_r1 gk_n) rfl (by decide +kernel)) ggX5_turn_X5_isRange
theorem mi_wsX5_turn_wsX5_turn_r2 : ∀ w ∈ wsX5_turn_r2, w ∈ wsX5_turn := fun _ h => (List.mem_cons_of_mem _ (List.mem_append_left _ (List.mem_append_right _ (List.mem_append_left _ h))))
theorem mi_wsX5_turn_wsX5_turn_r3 : ∀ w ∈ wsX5_turn_r3, w ∈ wsX5_turn := fun _ h => (List.mem_cons_of_mem _ (List.mem_append_left _ (List.mem_append_right _ (List.mem_append_right _ h))))
set_option maxRecDepth 20000 in
theorem ggX5_turn_X5_keeps : GoodIn wsX5_turn wsX5_keeps := goodIn_k _ [(wsX5_turn_r1, [10, 11, 12, 13, 14, 15, 16, 17, 18, 19, 20, 21, 22, 23, 4]), (wsX5_turn_r2, [0]), (wsX5_turn_r1, [6]), (wsX5_turn_r2, [1, 2, 3, 4, 5, 6, 7, 8, 9, 10, 11, 12, 13, 14, 15, 16, 17, 18, 19, 20, 21, 22, 23]), (wsX5_turn_r3, [0, 1, 2, 3, 4, 5, 6, 7]), (wsX50, [0, 1, 2, 3, 4, 5, 6, 7, 8, 9, 10, 11, 12, 13, 14, 15, 16, 17, 18, 19, 20, 21, 22, 23, 24, 25, 26, 27, 28, 29])] (gk_c mi_wsX5_turn_wsX5_turn_r1 (gk_c mi_wsX5_turn_wsX5_turn_r2 (gk_c mi_wsX5_turn_wsX5_turn_r1 (gk_c mi_wsX5_turn_wsX5_turn_r2 (gk_c mi_wsX5_turn_wsX5_turn_r3 (gk_c mi_wsX5_turn_wsX50 gk_n)))))) rfl (by decide +kernel)
set_option maxRecDepth 20000 in
theorem gX5_turn_X5_keeps : GoodIn wsX5_turn (wsV RX5 135 RX5 yX5_keeps wsX5_keeps) := goodIn_app (goodIn_k _ [(wsX5_turn_r1, [7, 8, 9, 4])] (gk_c mi_wsX5_turn_wsX5_turn_r1 gk_n) rfl (by decide +kernel)) ggX5_turn_X5_keeps
set_option maxRecDepth 20000 in
theorem ggX5_turn_X5_exchanges : GoodIn wsX5_turn wsX5_exchanges := goodIn_k _ [(wsX5_turn_r3, [11]), (wsX5_turn_r2, [7]), (wsX50, [0, 1, 2, 3, 4, 5, 6, 7, 8, 9, 10, 11, 12, 13, 14, 15, 16, 17, 18, 19, 20, 21, 22, 23, 24, 25, 26, 27, 28, 29])] (gk_c mi_wsX5_turn_wsX5_turn_r3 (gk_c mi_wsX5_turn_wsX5_turn_r2 (gk_c mi_wsX5_turn_wsX50 gk_n))) rfl (by decide +kernel)
set_option maxRecDepth 20000 in
theorem gX5_turn_X5_exchanges : GoodIn wsX5_turn (wsV RX5 145 RX5 yX5_exchanges wsX5_exchanges) := goodIn_app (goodIn_k _ [(wsX5_turn_r3, [8, 9, 10]), (wsX5_turn_r1, [4])] (gk_c mi_wsX5_turn_wsX5_turn_r3 (gk_c mi_wsX5_turn_wsX5_turn_r1 gk_n)) rfl (by decide +kernel)) ggX5_turn_X5_exchanges
set_option maxRecDepth 20000 in
theorem ggX5_turn_X5_others : GoodIn wsX5_turn wsX5_others := goodIn_k _ [(wsX5_turn_r3, [15]), (wsX5_turn_r1, [11, 12, 14, 13, 16, 15, 18, 17, 20, 19, 21, 22, 23, 4]), (wsX5_turn_r2, [0]), (wsX5_turn_r1, [6]), (wsX5_turn_r2, [1, 2, 3, 4, 5, 6, 7, 8, 9, 10, 11, 12, 13, 14, 15, 16, 17, 18, 19, 20, 21, 22, 23]), (wsX5_turn_r3, [0, 1, 2, 3, 4, 5, 6, 7]), (wsX50, [0, 1, 2, 3, 4, 5, 6, 7, 8, 9, 10, 11, 12, 13, 14, 15, 16, 17, 18, 19, 20, 21, 22, 23, 24, 25, 26, 27, 28, 29])] (gk_c mi_wsX5_turn_wsX5_turn_r3 (gk_c mi_wsX5_turn_wsX5_turn_r1 (gk_c mi_wsX5_turn_wsX5_turn_r2 (gk_c mi_wsX5_turn_wsX5_turn_r1 (gk_c mi_wsX5_turn_wsX5_turn_r2 (gk_c mi_wsX5_turn_wsX5_turn_r3 (gk_c mi_wsX5_turn_wsX50 gk_n))))))) rfl (by decide +kernel)
set_option maxRecDepth 20000 in
theorem gX5_turn_X5_others : GoodIn wsX5_turn (wsV RX5 138 RX5 yX5_others wsX5_others) := goodIn_app (goodIn_k _ [(wsX5_turn_r3, [12, 13, 14]), (wsX5_turn_r1, [4])] (gk_c mi_wsX5_turn_wsX5_turn_r3 (gk_c mi_wsX5_turn_wsX5_turn_r1 gk_n)) rfl (by decide +kernel)) ggX5_turn_X5_others
def dt_cX5_turn_0 : List (Nat × Instr × Nat) := [(0, .aload_n 0, 1), (1, .iconst 0, 1), (2, .putfield 77, 3), (5, .aload_n 0, 1), (6, .iload_n 1, 1), (7, .iload_n 2, 1), (8, .invokevirtual 142, 3), (11, .ifCond .ne 5, 3), (14, .iconst (-1), 1), (15, .ireturn, 1), (16, .aload_n 0, 1), (17, .invokevirtual 135, 3), (20, .iconst 0, 1), (21, .istore_n 3, 1), (22, .iload_n 3, 1), (23, .iload_n 2, 1), (24, .iload_n 1, 1), (25, .isub, 1), (26, .iconst 2, 1), (27, .idiv, 1), (28, .if_icmp .ge 21, 3), (31, .aload_n 0, 1), (32, .iload_n 1, 1), (33, .iload_n 3, 1), (34, .iadd, 1), (35, .iload_n 2, 1), (36, .iconst 1, 1), (37, .isub, 1), (38, .iload_n 3, 1), (39, .isub, 1), (40, .invokevirtual 145, 3), (43, .iinc 3 1, 3), (46, .goto (-24), 3), (49, .aload_n 0, 1), (50, .invokevirtual 138, 3), (53, .ireturn, 1)]
theorem da_cX5_turn_0 : dk_all cX5_turn dt_cX5_turn_0 = true := by decide +kernel
theorem dX5_turn_0 : decode cX5_turn 0 = .ok (.aload_n 0, 1) := dk_get _ da_cX5_turn_0 0 _ _ _ rfl
theorem dX5_turn_1 : decode cX5_turn 1 = .ok (.iconst 0, 1) := dk_get _ da_cX5_turn_0 1 _ _ _ rfl
theorem dX5_turn_2 : decode cX5_turn 2 = .ok (.putfield 77, 3) := dk_get _ da_cX5_turn_0 2 _ _ _ rfl
theorem dX5_turn_5 : decode cX5_turn 5 = .ok (.aload_n 0, 1) := dk_get _ da_cX5_turn_0 3 _ _ _ rfl
theorem dX5_turn_6 : decode cX5_turn 6 = .ok (.iload_n 1, 1) := dk_get _ da_cX5_turn_0 4 _ _ _ rfl
theorem dX5_turn_7 : decode cX5_turn 7 = .ok (.iload_n 2, 1) := dk_get _ da_cX5_turn_0 5 _ _ _ rfl
theorem dX5_turn_8 : decode cX5_turn 8 = .ok (.invokevirtual 142, 3) := dk_get _ da_cX5_turn_0 6 _ _ _ rfl
theorem dX5_turn_11 : decode cX5_turn 11 = .ok (.ifCond .ne 5, 3) := dk_get _ da_cX5_turn_0 7 _ _ _ rfl
theorem dX5_turn_14 : decode cX5_turn 14 = .ok (.iconst (-1), 1) := dk_get _ da_cX5_turn_0 8 _ _ _ rfl
theorem dX5_turn_15 : decode cX5_turn 15 = .ok (.ireturn, 1) := dk_get _ da_cX5_turn_0 9 _ _ _ rfl
theorem dX5_turn_16 : decode cX5_turn 16 = .ok (.aload_n 0, 1) := dk_get _ da_cX5_turn_0 10 _ _ _ rfl
theorem dX5_turn_17 : decode cX5_turn 17 = .ok (.invokevirtual 135, 3) := dk_get _ da_cX5_turn_0 11 _ _ _ rfl
theorem dX5_turn_20 : decode cX5_turn 20 = .ok (.iconst 0, 1) := dk_get _ da_cX5_turn_0 12 _ _ _ rfl
theorem dX5_turn_21 : decode cX5_turn 21 = .ok (.istore_n 3, 1) := dk_get _ da_cX5_turn_0 13 _ _ _ rfl
theorem dX5_turn_22 : decode cX5_turn 22 = .ok (.iload_n 3, 1) := dk_get _ da_cX5_turn_0 14 _ _ _ rfl
theorem dX5_turn_23 : decode cX5_turn 23 = .ok (.iload_n 2, 1) := dk_get _ da_cX5_turn_0 15 _ _ _ rfl
theorem dX5_turn_24 : decode cX5_turn 24 = .ok (.iload_n 1, 1) := dk_get _ da_cX5_turn_0 16 _ _ _ rfl
theorem dX5_turn_25 : decode cX5_turn 25 = .ok (.isub, 1) := dk_get _ da_cX5_turn_0 17 _ _ _ rfl
theorem dX5_turn_26 : decode cX5_turn 26 = .ok (.iconst 2, 1) := dk_get _ da_cX5_turn_0 18 _ _ _ rfl
theorem dX5_turn_27 : decode cX5_turn 27 = .ok (.idiv, 1) := dk_get _ da_cX5_turn_0 19 _ _ _ rfl
theorem dX5_turn_28 : decode cX5_turn 28 = .ok (.if_icmp .ge 21, 3) := dk_get _ da_cX5_turn_0 20 _ _ _ rfl
theorem dX5_turn_31 : decode cX5_turn 31 = .ok (.aload_n 0, 1) := dk_get _ da_cX5_turn_0 21 _ _ _ rfl
theorem dX5_turn_32 : decode cX5_turn 32 = .ok (.iload_n 1, 1) := dk_get _ da_cX5_turn_0 22 _ _ _ rfl
theorem dX5_turn_33 : decode cX5_turn 33 = .ok (.iload_n 3, 1) := dk_get _ da_cX5_turn_0 23 _ _ _ rfl
theorem dX5_turn_34 : decode cX5_turn 34 = .ok (.iadd, 1) := dk_get _ da_cX5_turn_0 24 _ _ _ rfl
theorem dX5_turn_35 : decode cX5_turn 35 = .ok (.iload_n 2, 1) := dk_get _ da_cX5_turn_0 25 _ _ _ rfl
theorem dX5_turn_36 : decode cX5_turn 36 = .ok (.iconst 1, 1) := dk_get _ da_cX5_turn_0 26 _ _ _ rfl
theorem dX5_turn_37 : decode cX5_turn 37 = .ok (.isub, 1) := dk_get _ da_cX5_turn_0 27 _ _ _ rfl
theorem dX5_turn_38 : decode cX5_turn 38 = .ok (.iload_n 3, 1) := dk_get _ da_cX5_turn_0 28 _ _ _ rfl
theorem dX5_turn_39 : decode cX5_turn 39 = .ok (.isub, 1) := dk_get _ da_cX5_turn_0 29 _ _ _ rfl
theorem dX5_turn_40 : decode cX5_turn 40 = .ok (.invokevirtual 145, 3) := dk_get _ da_cX5_turn_0 30 _ _ _ rfl
theorem dX5_turn_43 : decode cX5_turn 43 = .ok (.iinc 3 1, 3) := dk_get _ da_cX5_turn_0 31 _ _ _ rfl
theorem dX5_turn_46 : decode cX5_turn 46 = .ok (.goto (-24), 3) := dk_get _ da_cX5_turn_0 32 _ _ _ rfl
theorem dX5_turn_49 : decode cX5_turn 49 = .ok (.aload_n 0, 1) := dk_get _ da_cX5_turn_0 33 _ _ _ rfl
theorem dX5_turn_50 : decode cX5_turn 50 = .ok (.invokevirtual 138, 3) := dk_get _ da_cX5_turn_0 34 _ _ _ rfl
theorem dX5_turn_53 : decode cX5_turn 53 = .ok (.ireturn, 1) := dk_get _ da_cX5_turn_0 35 _ _ _ rfl
theorem mi_wsX5_swap_wsX5_swap_r1 : ∀ w ∈ wsX5_swap_r1, w ∈ wsX5_swap := fun _ h => (List.mem_cons_of_mem _ (List.mem_append_left _ (List.mem_append_left _ h)))
theorem mi_wsX5_swap_wsX50 : ∀ w ∈ wsX50, w ∈ wsX5_swap := fun _ h => (List.mem_cons_of_mem _ (List.mem_append_right _ h))
set_option maxRecDepth 20000 in
theorem ggX5_swap_X5_isPlace : GoodIn wsX5_swap wsX5_isPlace := goodIn_k _ [(wsX5_swap_r1, [5, 6, 7, 8, 4, 9]), (wsX50, [0, 1, 2, 3, 4, 5, 6, 7, 8, 9, 10, 11, 12, 13, 14, 15, 16, 17, 18, 19, 20, 21, 22, 23, 24, 25, 26, 27, 28, 29])] (gk_c mi_wsX5_swap_wsX5_swap_r1 (gk_c mi_wsX5_swap_wsX50 gk_n)) rfl (by decide +kernel)
set_option maxRecDepth 20000 in
theorem gX5_swap_X5_isPlace : GoodIn wsX5_swap (wsV RX5 128 RX5 yX5_isPlace wsX5_isPlace) := goodIn_app (goodIn_k _ [(wsX5_swap_r1, [1, 2, 3, 4])] (gk_c mi_wsX5_swap_wsX5_swap_r1 gk_n) rfl (by decide +kernel)) ggX5_swap_X5_isPlace
theorem mi_wsX5_swap_wsX5_swap_r2 : ∀ w ∈ wsX5_swap_r2, w ∈ wsX5_swap := fun _ h => (List.mem_cons_of_mem _ (List.mem_append_left _ (List.mem_append_right _ (List.mem_append_left _ h))))
theorem mi_wsX5_swap_wsX5_swap_r3 : ∀ w ∈ wsX5_swap_r3, w ∈ wsX5_swap := fun _ h => (List.mem_cons_of_mem _ (List.mem_append_left _ (List.mem_append_right _ (List.mem_append_right _ h))))
set_option maxRecDepth 20000 in
theorem ggX5_swap_X5_keeps : GoodIn wsX5_swap wsX5_keeps := goodIn_k _ [(wsX5_swap_r1, [13, 14, 15, 16, 17, 18, 19, 20, 21, 22, 23]), (wsX5_swap_r2, [0, 1, 2]), (wsX5_swap_r1, [4]), (wsX5_swap_r2, [3]), (wsX5_swap_r1, [6]), (wsX5_swap_r2, [4, 5, 6, 7, 8, 9, 10, 11, 12, 13, 14, 15, 16, 17, 18, 19, 20, 21, 22, 23]), (wsX5_swap_r3, [0, 1, 2, 3, 4, 5, 6, 7, 8, 9, 10]), (wsX50, [0, 1, 2, 3, 4, 5, 6, 7, 8, 9, 10, 11, 12, 13, 14, 15, 16, 17, 18, 19, 20, 21, 22, 23, 24, 25, 26, 27, 28, 29])] (gk_c mi_wsX5_swap_wsX5_swap_r1 (gk_c mi_wsX5_swap_wsX5_swap_r2 (gk_c mi_wsX5_swap_wsX5_swap_r1 (gk_c mi_wsX5_swap_wsX5_swap_r2 (gk_c mi_wsX5_swap_wsX5_swap_r1 (gk_c mi_wsX5_swap_wsX5_swap_r2 (gk_c mi_wsX5_swap_wsX5_swap_r3 (gk_c mi_wsX5_swap_wsX50 gk_n)))))))) rfl (by decide +kernel)
set_option maxRecDepth 20000 in
theorem gX5_swap_X5_keeps : GoodIn wsX5_swap (wsV RX5 135 RX5 yX5_keeps wsX5_keeps) := goodIn_app (goodIn_k _ [(wsX5_swap_r1, [10, 11, 12, 4])] (gk_c mi_wsX5_swap_wsX5_swap_r1 gk_n) rfl (by decide +kernel)) ggX5_swap_X5_keeps
set_option maxRecDepth 20000 in
theorem ggX5_swap_X5_exchanges : GoodIn wsX5_swap wsX5_exchanges := goodIn_k _ [(wsX5_swap_r3, [14]), (wsX5_swap_r2, [10]), (wsX50, [0, 1, 2, 3, 4, 5, 6, 7, 8, 9, 10, 11, 12, 13, 14, 15, 16, 17, 18, 19, 20, 21, 22, 23, 24, 25, 26, 27, 28, 29])] (gk_c mi_wsX5_swap_wsX5_swap_r3 (gk_c mi_wsX5_swap_wsX5_swap_r2 (gk_c mi_wsX5_swap_wsX50 gk_n))) rfl (by decide +kernel)
set_option maxRecDepth 20000 in
theorem gX5_swap_X5_exchanges : GoodIn wsX5_swap (wsV RX5 145 RX5 yX5_exchanges wsX5_exchanges) := goodIn_app (goodIn_k _ [(wsX5_swap_r3, [11, 12, 13]), (wsX5_swap_r1, [4])] (gk_c mi_wsX5_swap_wsX5_swap_r3 (gk_c mi_wsX5_swap_wsX5_swap_r1 gk_n)) rfl (by decide +kernel)) ggX5_swap_X5_exchanges
set_option maxRecDepth 20000 in
theorem ggX5_swap_X5_others : GoodIn wsX5_swap wsX5_others := goodIn_k _ [(wsX5_swap_r3, [18]), (wsX5_swap_r1, [14, 15, 17, 16, 19, 18, 21, 20, 23, 22]), (wsX5_swap_r2, [0, 1, 2]), (wsX5_swap_r1, [4]), (wsX5_swap_r2, [3]), (wsX5_swap_r1, [6]), (wsX5_swap_r2, [4, 5, 6, 7, 8, 9, 10, 11, 12, 13, 14, 15, 16, 17, 18, 19, 20, 21, 22, 23]), (wsX5_swap_r3, [0, 1, 2, 3, 4, 5, 6, 7, 8, 9, 10]), (wsX50, [0, 1, 2, 3, 4, 5, 6, 7, 8, 9, 10, 11, 12, 13, 14, 15, 16, 17, 18, 19, 20, 21, 22, 23, 24, 25, 26, 27, 28, 29])] (gk_c mi_wsX5_swap_wsX5_swap_r3 (gk_c mi_wsX5_swap_wsX5_swap_r1 (gk_c mi_wsX5_swap_wsX5_swap_r2 (gk_c mi_wsX5_swap_wsX5_swap_r1 (gk_c mi_wsX5_swap_wsX5_swap_r2 (gk_c mi_wsX5_swap_wsX5_swap_r1 (gk_c mi_wsX5_swap_wsX5_swap_r2 (gk_c mi_wsX5_swap_wsX5_swap_r3 (gk_c mi_wsX5_swap_wsX50 gk_n))))))))) rfl (by decide +kernel)
set_option maxRecDepth 20000 in
theorem gX5_swap_X5_others : GoodIn wsX5_swap (wsV RX5 138 RX5 yX5_others wsX5_others) := goodIn_app (goodIn_k _ [(wsX5_swap_r3, [15, 16, 17]), (wsX5_swap_r1, [4])] (gk_c mi_wsX5_swap_wsX5_swap_r3 (gk_c mi_wsX5_swap_wsX5_swap_r1 gk_n)) rfl (by decide +kernel)) ggX5_swap_X5_others
def dt_cX5_swap_0 : List (Nat × Instr × Nat) := [(0, .aload_n 0, 1), (1, .iconst 0, 1), (2, .putfield 77, 3), (5, .aload_n 0, 1), (6, .iload_n 1, 1), (7, .invokevirtual 128, 3), (10, .ifCond .eq 11, 3), (13, .aload_n 0, 1), (14, .iload_n 2, 1), (15, .invokevirtual 128, 3), (18, .ifCond .ne 5, 3), (21, .iconst (-1), 1), (22, .ireturn, 1), (23, .aload_n 0, 1), (24, .invokevirtual 135, 3), (27, .aload_n 0, 1), (28, .iload_n 1, 1), (29, .iload_n 2, 1), (30, .invokevirtual 145, 3), (33, .aload_n 0, 1), (34, .invokevirtual 138, 3), (37, .ireturn, 1)]
theorem da_cX5_swap_0 : dk_all cX5_swap dt_cX5_swap_0 = true := by decide +kernel
theorem dX5_swap_0 : decode cX5_swap 0 = .ok (.aload_n 0, 1) := dk_get _ da_cX5_swap_0 0 _ _ _ rfl
theorem dX5_swap_1 : decode cX5_swap 1 = .ok (.iconst 0, 1) := dk_get _ da_cX5_swap_0 1 _ _ _ rfl
theorem dX5_swap_2 : decode cX5_swap 2 = .ok (.putfield 77, 3) := dk_get _ da_cX5_swap_0 2 _ _ _ rfl
theorem dX5_swap_5 : decode cX5_swap 5 = .ok (.aload_n 0, 1) := dk_get _ da_cX5_swap_0 3 _ _ _ rfl
theorem dX5_swap_6 : decode cX5_swap 6 = .ok (.iload_n 1, 1) := dk_get _ da_cX5_swap_0 4 _ _ _ rfl
theorem dX5_swap_7 : decode cX5_swap 7 = .ok (.invokevirtual 128, 3) := dk_get _ da_cX5_swap_0 5 _ _ _ rfl
theorem dX5_swap_10 : decode cX5_swap 10 = .ok (.ifCond .eq 11, 3) := dk_get _ da_cX5_swap_0 6 _ _ _ rfl
theorem dX5_swap_13 : decode cX5_swap 13 = .ok (.aload_n 0, 1) := dk_get _ da_cX5_swap_0 7 _ _ _ rfl
theorem dX5_swap_14 : decode cX5_swap 14 = .ok (.iload_n 2, 1) := dk_get _ da_cX5_swap_0 8 _ _ _ rfl
theorem dX5_swap_15 : decode cX5_swap 15 = .ok (.invokevirtual 128, 3) := dk_get _ da_cX5_swap_0 9 _ _ _ rfl
theorem dX5_swap_18 : decode cX5_swap 18 = .ok (.ifCond .ne 5, 3) := dk_get _ da_cX5_swap_0 10 _ _ _ rfl
theorem dX5_swap_21 : decode cX5_swap 21 = .ok (.iconst (-1), 1) := dk_get _ da_cX5_swap_0 11 _ _ _ rfl
theorem dX5_swap_22 : decode cX5_swap 22 = .ok (.ireturn, 1) := dk_get _ da_cX5_swap_0 12 _ _ _ rfl
theorem dX5_swap_23 : decode cX5_swap 23 = .ok (.aload_n 0, 1) := dk_get _ da_cX5_swap_0 13 _ _ _ rfl
theorem dX5_swap_24 : decode cX5_swap 24 = .ok (.invokevirtual 135, 3) := dk_get _ da_cX5_swap_0 14 _ _ _ rfl
theorem dX5_swap_27 : decode cX5_swap 27 = .ok (.aload_n 0, 1) := dk_get _ da_cX5_swap_0 15 _ _ _ rfl
theorem dX5_swap_28 : decode cX5_swap 28 = .ok (.iload_n 1, 1) := dk_get _ da_cX5_swap_0 16 _ _ _ rfl
theorem dX5_swap_29 : decode cX5_swap 29 = .ok (.iload_n 2, 1) := dk_get _ da_cX5_swap_0 17 _ _ _ rfl
theorem dX5_swap_30 : decode cX5_swap 30 = .ok (.invokevirtual 145, 3) := dk_get _ da_cX5_swap_0 18 _ _ _ rfl
theorem dX5_swap_33 : decode cX5_swap 33 = .ok (.aload_n 0, 1) := dk_get _ da_cX5_swap_0 19 _ _ _ rfl
theorem dX5_swap_34 : decode cX5_swap 34 = .ok (.invokevirtual 138, 3) := dk_get _ da_cX5_swap_0 20 _ _ _ rfl
theorem dX5_swap_37 : decode cX5_swap 37 = .ok (.ireturn, 1) := dk_get _ da_cX5_swap_0 21 _ _ _ rfl

