abbrev cX5_parts : ByteArray := prog_7_method_45_code
def yX5_parts : MethodName := ⟨RX5, "parts", "(II)I"⟩
abbrev cX5_part : ByteArray := prog_7_method_46_code
def yX5_part : MethodName := ⟨RX5, "part", "(IIII)I"⟩
abbrev cX5_sums : ByteArray := prog_7_method_47_code
def yX5_sums : MethodName := ⟨RX5, "sums", "(II)V"⟩
abbrev cX5_summary : ByteArray := prog_7_method_49_code
def yX5_summary : MethodName := ⟨RX5, "summary", "(III)I"⟩
abbrev cX5_candidate : ByteArray := prog_7_method_50_code
def yX5_candidate : MethodName := ⟨RX5, "candidate", "(IIII)I"⟩
abbrev cX5_lost : ByteArray := prog_7_method_51_code
def yX5_lost : MethodName := ⟨RX5, "lost", "(III)I"⟩
abbrev cX5_surely : ByteArray := prog_7_method_52_code
def yX5_surely : MethodName := ⟨RX5, "surely", "(II)I"⟩
abbrev cX5_failed : ByteArray := prog_7_method_58_code
def yX5_failed : MethodName := ⟨RX5, "failed", "(IIII)I"⟩
def wsX5_parts_r1 : List Cond := [Cond.fieldLink RX5 77 "MajorityIndexModel" "thrown" "I", Cond.fieldLink RX5 13 "MajorityIndexModel" "slots" "I", Cond.fieldLink RX5 115 "MajorityIndexModel" "partMany" "I", Cond.methodLink RX5 142 yX5_isRange, Cond.instanceMethod yX5_isRange, Cond.selects RX5 yX5_isRange yX5_isRange, Cond.initialized RX5, Cond.code yX5_isRange cX5_isRange 3 (some .boolean), Cond.fieldLink RX5 84 "MajorityIndexModel" "n" "I", Cond.methodLink RX5 124 yX5_laysAll, Cond.instanceMethod yX5_laysAll, Cond.selects RX5 yX5_laysAll yX5_laysAll, Cond.code yX5_laysAll cX5_laysAll 2 none, Cond.fieldLink RX5 101 "MajorityIndexModel" "nodes" "I", Cond.methodLink RX5 107 yX5_lays, Cond.instanceMethod yX5_lays, Cond.selects RX5 yX5_lays yX5_lays, Cond.code yX5_lays cX5_lays 8 (some .int), Cond.fieldLink RX5 38 "MajorityIndexModel" "nodeL" "[I", Cond.fieldLink RX5 41 "MajorityIndexModel" "nodeR" "[I", Cond.fieldLink RX5 7 "MajorityIndexModel" "row" "[I", Cond.methodLink RX5 104 yX5_one, Cond.instanceMethod yX5_one, Cond.selects RX5 yX5_one yX5_one]
def wsX5_parts_r2 : List Cond := [Cond.code yX5_one cX5_one 3 none, Cond.fieldLink RX5 17 "MajorityIndexModel" "many" "[I", Cond.fieldLink RX5 20 "MajorityIndexModel" "loss" "[I", Cond.fieldLink RX5 23 "MajorityIndexModel" "less" "[I", Cond.fieldLink RX5 26 "MajorityIndexModel" "voteValue" "[I", Cond.fieldLink RX5 29 "MajorityIndexModel" "voteNumber" "[I", Cond.methodLink RX5 111 yX5_together, Cond.instanceMethod yX5_together, Cond.selects RX5 yX5_together yX5_together, Cond.code yX5_together cX5_together 9 none, Cond.fieldLink RX5 87 "MajorityIndexModel" "allMany" "I", Cond.fieldLink RX5 35 "MajorityIndexModel" "allNumber" "[I", Cond.fieldLink RX5 32 "MajorityIndexModel" "allValue" "[I", Cond.methodLink RX5 94 yX5_adds, Cond.instanceMethod yX5_adds, Cond.selects RX5 yX5_adds yX5_adds, Cond.code yX5_adds cX5_adds 4 none, Cond.methodLink RX5 98 yX5_sorts, Cond.instanceMethod yX5_sorts, Cond.selects RX5 yX5_sorts yX5_sorts, Cond.code yX5_sorts cX5_sorts 4 none, Cond.methodLink RX5 90 yX5_isAhead, Cond.instanceMethod yX5_isAhead, Cond.selects RX5 yX5_isAhead yX5_isAhead]
def wsX5_parts_r3 : List Cond := [Cond.code yX5_isAhead cX5_isAhead 3 (some .boolean), Cond.methodLink RX5 118 yX5_laysParts, Cond.instanceMethod yX5_laysParts, Cond.selects RX5 yX5_laysParts yX5_laysParts, Cond.code yX5_laysParts cX5_laysParts 5 none, Cond.fieldLink RX5 44 "MajorityIndexModel" "part" "[I"]
def wsX5_parts : List Cond := .code yX5_parts cX5_parts 3 (some .int) :: ((wsX5_parts_r1 ++ (wsX5_parts_r2 ++ wsX5_parts_r3)) ++ wsX50)
def wsX5_part_r1 : List Cond := [Cond.fieldLink RX5 77 "MajorityIndexModel" "thrown" "I", Cond.fieldLink RX5 13 "MajorityIndexModel" "slots" "I", Cond.fieldLink RX5 115 "MajorityIndexModel" "partMany" "I", Cond.fieldLink RX5 38 "MajorityIndexModel" "nodeL" "[I", Cond.fieldLink RX5 44 "MajorityIndexModel" "part" "[I", Cond.fieldLink RX5 41 "MajorityIndexModel" "nodeR" "[I", Cond.methodLink RX5 142 yX5_isRange, Cond.instanceMethod yX5_isRange, Cond.selects RX5 yX5_isRange yX5_isRange, Cond.initialized RX5, Cond.code yX5_isRange cX5_isRange 3 (some .boolean), Cond.fieldLink RX5 84 "MajorityIndexModel" "n" "I", Cond.methodLink RX5 80 yX5_within, Cond.static yX5_within, Cond.code yX5_within cX5_within 3 (some .boolean), Cond.methodLink RX5 124 yX5_laysAll, Cond.instanceMethod yX5_laysAll, Cond.selects RX5 yX5_laysAll yX5_laysAll, Cond.code yX5_laysAll cX5_laysAll 2 none, Cond.fieldLink RX5 101 "MajorityIndexModel" "nodes" "I", Cond.methodLink RX5 107 yX5_lays, Cond.instanceMethod yX5_lays, Cond.selects RX5 yX5_lays yX5_lays, Cond.code yX5_lays cX5_lays 8 (some .int)]
def wsX5_part_r2 : List Cond := [Cond.fieldLink RX5 7 "MajorityIndexModel" "row" "[I", Cond.methodLink RX5 104 yX5_one, Cond.instanceMethod yX5_one, Cond.selects RX5 yX5_one yX5_one, Cond.code yX5_one cX5_one 3 none, Cond.fieldLink RX5 17 "MajorityIndexModel" "many" "[I", Cond.fieldLink RX5 20 "MajorityIndexModel" "loss" "[I", Cond.fieldLink RX5 23 "MajorityIndexModel" "less" "[I", Cond.fieldLink RX5 26 "MajorityIndexModel" "voteValue" "[I", Cond.fieldLink RX5 29 "MajorityIndexModel" "voteNumber" "[I", Cond.methodLink RX5 111 yX5_together, Cond.instanceMethod yX5_together, Cond.selects RX5 yX5_together yX5_together, Cond.code yX5_together cX5_together 9 none, Cond.fieldLink RX5 87 "MajorityIndexModel" "allMany" "I", Cond.fieldLink RX5 35 "MajorityIndexModel" "allNumber" "[I", Cond.fieldLink RX5 32 "MajorityIndexModel" "allValue" "[I", Cond.methodLink RX5 94 yX5_adds, Cond.instanceMethod yX5_adds, Cond.selects RX5 yX5_adds yX5_adds, Cond.code yX5_adds cX5_adds 4 none, Cond.methodLink RX5 98 yX5_sorts, Cond.instanceMethod yX5_sorts, Cond.selects RX5 yX5_sorts yX5_sorts]
def wsX5_part_r3 : List Cond := [Cond.code yX5_sorts cX5_sorts 4 none, Cond.methodLink RX5 90 yX5_isAhead, Cond.instanceMethod yX5_isAhead, Cond.selects RX5 yX5_isAhead yX5_isAhead, Cond.code yX5_isAhead cX5_isAhead 3 (some .boolean), Cond.methodLink RX5 118 yX5_laysParts, Cond.instanceMethod yX5_laysParts, Cond.selects RX5 yX5_laysParts yX5_laysParts, Cond.code yX5_laysParts cX5_laysParts 5 none]
def wsX5_part : List Cond := .code yX5_part cX5_part 5 (some .int) :: ((wsX5_part_r1 ++ (wsX5_part_r2 ++ wsX5_part_r3)) ++ wsX50)
def wsX5_sums_r1 : List Cond := [Cond.fieldLink RX5 13 "MajorityIndexModel" "slots" "I", Cond.methodLink RX5 124 yX5_laysAll, Cond.instanceMethod yX5_laysAll, Cond.selects RX5 yX5_laysAll yX5_laysAll, Cond.initialized RX5, Cond.code yX5_laysAll cX5_laysAll 2 none, Cond.fieldLink RX5 101 "MajorityIndexModel" "nodes" "I", Cond.fieldLink RX5 84 "MajorityIndexModel" "n" "I", Cond.methodLink RX5 107 yX5_lays, Cond.instanceMethod yX5_lays, Cond.selects RX5 yX5_lays yX5_lays, Cond.code yX5_lays cX5_lays 8 (some .int), Cond.fieldLink RX5 38 "MajorityIndexModel" "nodeL" "[I", Cond.fieldLink RX5 41 "MajorityIndexModel" "nodeR" "[I", Cond.fieldLink RX5 7 "MajorityIndexModel" "row" "[I", Cond.methodLink RX5 104 yX5_one, Cond.instanceMethod yX5_one, Cond.selects RX5 yX5_one yX5_one, Cond.code yX5_one cX5_one 3 none, Cond.fieldLink RX5 17 "MajorityIndexModel" "many" "[I", Cond.fieldLink RX5 20 "MajorityIndexModel" "loss" "[I", Cond.fieldLink RX5 23 "MajorityIndexModel" "less" "[I", Cond.fieldLink RX5 26 "MajorityIndexModel" "voteValue" "[I", Cond.fieldLink RX5 29 "MajorityIndexModel" "voteNumber" "[I"]
def wsX5_sums_r2 : List Cond := [Cond.methodLink RX5 111 yX5_together, Cond.instanceMethod yX5_together, Cond.selects RX5 yX5_together yX5_together, Cond.code yX5_together cX5_together 9 none, Cond.fieldLink RX5 87 "MajorityIndexModel" "allMany" "I", Cond.fieldLink RX5 35 "MajorityIndexModel" "allNumber" "[I", Cond.fieldLink RX5 32 "MajorityIndexModel" "allValue" "[I", Cond.methodLink RX5 94 yX5_adds, Cond.instanceMethod yX5_adds, Cond.selects RX5 yX5_adds yX5_adds, Cond.code yX5_adds cX5_adds 4 none, Cond.methodLink RX5 98 yX5_sorts, Cond.instanceMethod yX5_sorts, Cond.selects RX5 yX5_sorts yX5_sorts, Cond.code yX5_sorts cX5_sorts 4 none, Cond.methodLink RX5 90 yX5_isAhead, Cond.instanceMethod yX5_isAhead, Cond.selects RX5 yX5_isAhead yX5_isAhead, Cond.code yX5_isAhead cX5_isAhead 3 (some .boolean), Cond.methodLink RX5 168 yX5_folds, Cond.instanceMethod yX5_folds, Cond.selects RX5 yX5_folds yX5_folds, Cond.code yX5_folds cX5_folds 6 none, Cond.fieldLink RX5 44 "MajorityIndexModel" "part" "[I"]
def wsX5_sums_r3 : List Cond := [Cond.fieldLink RX5 115 "MajorityIndexModel" "partMany" "I", Cond.methodLink RX5 118 yX5_laysParts, Cond.instanceMethod yX5_laysParts, Cond.selects RX5 yX5_laysParts yX5_laysParts, Cond.code yX5_laysParts cX5_laysParts 5 none, Cond.methodLink RX5 121 yX5_copies, Cond.instanceMethod yX5_copies, Cond.selects RX5 yX5_copies yX5_copies, Cond.code yX5_copies cX5_copies 4 none]
def wsX5_sums : List Cond := .code yX5_sums cX5_sums 3 none :: ((wsX5_sums_r1 ++ (wsX5_sums_r2 ++ wsX5_sums_r3)) ++ wsX50)
def wsX5_summary_r1 : List Cond := [Cond.fieldLink RX5 77 "MajorityIndexModel" "thrown" "I", Cond.fieldLink RX5 17 "MajorityIndexModel" "many" "[I", Cond.fieldLink RX5 20 "MajorityIndexModel" "loss" "[I", Cond.methodLink RX5 142 yX5_isRange, Cond.instanceMethod yX5_isRange, Cond.selects RX5 yX5_isRange yX5_isRange, Cond.initialized RX5, Cond.code yX5_isRange cX5_isRange 3 (some .boolean), Cond.fieldLink RX5 84 "MajorityIndexModel" "n" "I", Cond.methodLink RX5 80 yX5_within, Cond.static yX5_within, Cond.code yX5_within cX5_within 3 (some .boolean), Cond.methodLink RX5 171 yX5_sums, Cond.instanceMethod yX5_sums, Cond.selects RX5 yX5_sums yX5_sums, Cond.code yX5_sums cX5_sums 3 none, Cond.fieldLink RX5 13 "MajorityIndexModel" "slots" "I", Cond.methodLink RX5 124 yX5_laysAll, Cond.instanceMethod yX5_laysAll, Cond.selects RX5 yX5_laysAll yX5_laysAll, Cond.code yX5_laysAll cX5_laysAll 2 none, Cond.fieldLink RX5 101 "MajorityIndexModel" "nodes" "I", Cond.methodLink RX5 107 yX5_lays, Cond.instanceMethod yX5_lays]
def wsX5_summary_r2 : List Cond := [Cond.selects RX5 yX5_lays yX5_lays, Cond.code yX5_lays cX5_lays 8 (some .int), Cond.fieldLink RX5 38 "MajorityIndexModel" "nodeL" "[I", Cond.fieldLink RX5 41 "MajorityIndexModel" "nodeR" "[I", Cond.fieldLink RX5 7 "MajorityIndexModel" "row" "[I", Cond.methodLink RX5 104 yX5_one, Cond.instanceMethod yX5_one, Cond.selects RX5 yX5_one yX5_one, Cond.code yX5_one cX5_one 3 none, Cond.fieldLink RX5 23 "MajorityIndexModel" "less" "[I", Cond.fieldLink RX5 26 "MajorityIndexModel" "voteValue" "[I", Cond.fieldLink RX5 29 "MajorityIndexModel" "voteNumber" "[I", Cond.methodLink RX5 111 yX5_together, Cond.instanceMethod yX5_together, Cond.selects RX5 yX5_together yX5_together, Cond.code yX5_together cX5_together 9 none, Cond.fieldLink RX5 87 "MajorityIndexModel" "allMany" "I", Cond.fieldLink RX5 35 "MajorityIndexModel" "allNumber" "[I", Cond.fieldLink RX5 32 "MajorityIndexModel" "allValue" "[I", Cond.methodLink RX5 94 yX5_adds, Cond.instanceMethod yX5_adds, Cond.selects RX5 yX5_adds yX5_adds, Cond.code yX5_adds cX5_adds 4 none, Cond.methodLink RX5 98 yX5_sorts]
def wsX5_summary_r3 : List Cond := [Cond.instanceMethod yX5_sorts, Cond.selects RX5 yX5_sorts yX5_sorts, Cond.code yX5_sorts cX5_sorts 4 none, Cond.methodLink RX5 90 yX5_isAhead, Cond.instanceMethod yX5_isAhead, Cond.selects RX5 yX5_isAhead yX5_isAhead, Cond.code yX5_isAhead cX5_isAhead 3 (some .boolean), Cond.methodLink RX5 168 yX5_folds, Cond.instanceMethod yX5_folds, Cond.selects RX5 yX5_folds yX5_folds, Cond.code yX5_folds cX5_folds 6 none, Cond.fieldLink RX5 44 "MajorityIndexModel" "part" "[I", Cond.fieldLink RX5 115 "MajorityIndexModel" "partMany" "I", Cond.methodLink RX5 118 yX5_laysParts, Cond.instanceMethod yX5_laysParts, Cond.selects RX5 yX5_laysParts yX5_laysParts, Cond.code yX5_laysParts cX5_laysParts 5 none, Cond.methodLink RX5 121 yX5_copies, Cond.instanceMethod yX5_copies, Cond.selects RX5 yX5_copies yX5_copies, Cond.code yX5_copies cX5_copies 4 none, Cond.methodLink RX5 174 yX5_numbersOf, Cond.instanceMethod yX5_numbersOf, Cond.selects RX5 yX5_numbersOf yX5_numbersOf]
def wsX5_summary_r4 : List Cond := [Cond.code yX5_numbersOf cX5_numbersOf 4 (some .int)]
def wsX5_summary : List Cond := .code yX5_summary cX5_summary 4 (some .int) :: ((wsX5_summary_r1 ++ (wsX5_summary_r2 ++ (wsX5_summary_r3 ++ wsX5_summary_r4))) ++ wsX50)
def wsX5_candidate_r1 : List Cond := [Cond.fieldLink RX5 77 "MajorityIndexModel" "thrown" "I", Cond.fieldLink RX5 17 "MajorityIndexModel" "many" "[I", Cond.fieldLink RX5 26 "MajorityIndexModel" "voteValue" "[I", Cond.fieldLink RX5 29 "MajorityIndexModel" "voteNumber" "[I", Cond.methodLink RX5 142 yX5_isRange, Cond.instanceMethod yX5_isRange, Cond.selects RX5 yX5_isRange yX5_isRange, Cond.initialized RX5, Cond.code yX5_isRange cX5_isRange 3 (some .boolean), Cond.fieldLink RX5 84 "MajorityIndexModel" "n" "I", Cond.methodLink RX5 80 yX5_within, Cond.static yX5_within, Cond.code yX5_within cX5_within 3 (some .boolean), Cond.methodLink RX5 171 yX5_sums, Cond.instanceMethod yX5_sums, Cond.selects RX5 yX5_sums yX5_sums, Cond.code yX5_sums cX5_sums 3 none, Cond.fieldLink RX5 13 "MajorityIndexModel" "slots" "I", Cond.methodLink RX5 124 yX5_laysAll, Cond.instanceMethod yX5_laysAll, Cond.selects RX5 yX5_laysAll yX5_laysAll, Cond.code yX5_laysAll cX5_laysAll 2 none, Cond.fieldLink RX5 101 "MajorityIndexModel" "nodes" "I", Cond.methodLink RX5 107 yX5_lays]
def wsX5_candidate_r2 : List Cond := [Cond.instanceMethod yX5_lays, Cond.selects RX5 yX5_lays yX5_lays, Cond.code yX5_lays cX5_lays 8 (some .int), Cond.fieldLink RX5 38 "MajorityIndexModel" "nodeL" "[I", Cond.fieldLink RX5 41 "MajorityIndexModel" "nodeR" "[I", Cond.fieldLink RX5 7 "MajorityIndexModel" "row" "[I", Cond.methodLink RX5 104 yX5_one, Cond.instanceMethod yX5_one, Cond.selects RX5 yX5_one yX5_one, Cond.code yX5_one cX5_one 3 none, Cond.fieldLink RX5 20 "MajorityIndexModel" "loss" "[I", Cond.fieldLink RX5 23 "MajorityIndexModel" "less" "[I", Cond.methodLink RX5 111 yX5_together, Cond.instanceMethod yX5_together, Cond.selects RX5 yX5_together yX5_together, Cond.code yX5_together cX5_together 9 none, Cond.fieldLink RX5 87 "MajorityIndexModel" "allMany" "I", Cond.fieldLink RX5 35 "MajorityIndexModel" "allNumber" "[I", Cond.fieldLink RX5 32 "MajorityIndexModel" "allValue" "[I", Cond.methodLink RX5 94 yX5_adds, Cond.instanceMethod yX5_adds, Cond.selects RX5 yX5_adds yX5_adds, Cond.code yX5_adds cX5_adds 4 none, Cond.methodLink RX5 98 yX5_sorts]
def wsX5_candidate_r3 : List Cond := [Cond.instanceMethod yX5_sorts, Cond.selects RX5 yX5_sorts yX5_sorts, Cond.code yX5_sorts cX5_sorts 4 none, Cond.methodLink RX5 90 yX5_isAhead, Cond.instanceMethod yX5_isAhead, Cond.selects RX5 yX5_isAhead yX5_isAhead, Cond.code yX5_isAhead cX5_isAhead 3 (some .boolean), Cond.methodLink RX5 168 yX5_folds, Cond.instanceMethod yX5_folds, Cond.selects RX5 yX5_folds yX5_folds, Cond.code yX5_folds cX5_folds 6 none, Cond.fieldLink RX5 44 "MajorityIndexModel" "part" "[I", Cond.fieldLink RX5 115 "MajorityIndexModel" "partMany" "I", Cond.methodLink RX5 118 yX5_laysParts, Cond.instanceMethod yX5_laysParts, Cond.selects RX5 yX5_laysParts yX5_laysParts, Cond.code yX5_laysParts cX5_laysParts 5 none, Cond.methodLink RX5 121 yX5_copies, Cond.instanceMethod yX5_copies, Cond.selects RX5 yX5_copies yX5_copies, Cond.code yX5_copies cX5_copies 4 none, Cond.methodLink RX5 149 yX5_times, Cond.instanceMethod yX5_times, Cond.selects RX5 yX5_times yX5_times]
def wsX5_candidate_r4 : List Cond := [Cond.code yX5_times cX5_times 6 (some .int)]
def wsX5_candidate : List Cond := .code yX5_candidate cX5_candidate 6 (some .int) :: ((wsX5_candidate_r1 ++ (wsX5_candidate_r2 ++ (wsX5_candidate_r3 ++ wsX5_candidate_r4))) ++ wsX50)
def wsX5_lost_r1 : List Cond := [Cond.fieldLink RX5 77 "MajorityIndexModel" "thrown" "I", Cond.methodLink RX5 132 yX5_isValue, Cond.static yX5_isValue, Cond.initialized RX5, Cond.code yX5_isValue cX5_isValue 1 (some .boolean), Cond.methodLink RX5 80 yX5_within, Cond.static yX5_within, Cond.code yX5_within cX5_within 3 (some .boolean), Cond.methodLink RX5 142 yX5_isRange, Cond.instanceMethod yX5_isRange, Cond.selects RX5 yX5_isRange yX5_isRange, Cond.code yX5_isRange cX5_isRange 3 (some .boolean), Cond.fieldLink RX5 84 "MajorityIndexModel" "n" "I", Cond.methodLink RX5 171 yX5_sums, Cond.instanceMethod yX5_sums, Cond.selects RX5 yX5_sums yX5_sums, Cond.code yX5_sums cX5_sums 3 none, Cond.fieldLink RX5 13 "MajorityIndexModel" "slots" "I", Cond.methodLink RX5 124 yX5_laysAll, Cond.instanceMethod yX5_laysAll, Cond.selects RX5 yX5_laysAll yX5_laysAll, Cond.code yX5_laysAll cX5_laysAll 2 none, Cond.fieldLink RX5 101 "MajorityIndexModel" "nodes" "I", Cond.methodLink RX5 107 yX5_lays]
def wsX5_lost_r2 : List Cond := [Cond.instanceMethod yX5_lays, Cond.selects RX5 yX5_lays yX5_lays, Cond.code yX5_lays cX5_lays 8 (some .int), Cond.fieldLink RX5 38 "MajorityIndexModel" "nodeL" "[I", Cond.fieldLink RX5 41 "MajorityIndexModel" "nodeR" "[I", Cond.fieldLink RX5 7 "MajorityIndexModel" "row" "[I", Cond.methodLink RX5 104 yX5_one, Cond.instanceMethod yX5_one, Cond.selects RX5 yX5_one yX5_one, Cond.code yX5_one cX5_one 3 none, Cond.fieldLink RX5 17 "MajorityIndexModel" "many" "[I", Cond.fieldLink RX5 20 "MajorityIndexModel" "loss" "[I", Cond.fieldLink RX5 23 "MajorityIndexModel" "less" "[I", Cond.fieldLink RX5 26 "MajorityIndexModel" "voteValue" "[I", Cond.fieldLink RX5 29 "MajorityIndexModel" "voteNumber" "[I", Cond.methodLink RX5 111 yX5_together, Cond.instanceMethod yX5_together, Cond.selects RX5 yX5_together yX5_together, Cond.code yX5_together cX5_together 9 none, Cond.fieldLink RX5 87 "MajorityIndexModel" "allMany" "I", Cond.fieldLink RX5 35 "MajorityIndexModel" "allNumber" "[I", Cond.fieldLink RX5 32 "MajorityIndexModel" "allValue" "[I", Cond.methodLink RX5 94 yX5_adds, Cond.instanceMethod yX5_adds]
def wsX5_lost_r3 : List Cond := [Cond.selects RX5 yX5_adds yX5_adds, Cond.code yX5_adds cX5_adds 4 none, Cond.methodLink RX5 98 yX5_sorts, Cond.instanceMethod yX5_sorts, Cond.selects RX5 yX5_sorts yX5_sorts, Cond.code yX5_sorts cX5_sorts 4 none, Cond.methodLink RX5 90 yX5_isAhead, Cond.instanceMethod yX5_isAhead, Cond.selects RX5 yX5_isAhead yX5_isAhead, Cond.code yX5_isAhead cX5_isAhead 3 (some .boolean), Cond.methodLink RX5 168 yX5_folds, Cond.instanceMethod yX5_folds, Cond.selects RX5 yX5_folds yX5_folds, Cond.code yX5_folds cX5_folds 6 none, Cond.fieldLink RX5 44 "MajorityIndexModel" "part" "[I", Cond.fieldLink RX5 115 "MajorityIndexModel" "partMany" "I", Cond.methodLink RX5 118 yX5_laysParts, Cond.instanceMethod yX5_laysParts, Cond.selects RX5 yX5_laysParts yX5_laysParts, Cond.code yX5_laysParts cX5_laysParts 5 none, Cond.methodLink RX5 121 yX5_copies, Cond.instanceMethod yX5_copies, Cond.selects RX5 yX5_copies yX5_copies, Cond.code yX5_copies cX5_copies 4 none]
def wsX5_lost_r4 : List Cond := [Cond.methodLink RX5 149 yX5_times, Cond.instanceMethod yX5_times, Cond.selects RX5 yX5_times yX5_times, Cond.code yX5_times cX5_times 6 (some .int), Cond.methodLink RX5 165 yX5_numberOf, Cond.instanceMethod yX5_numberOf, Cond.selects RX5 yX5_numberOf yX5_numberOf, Cond.code yX5_numberOf cX5_numberOf 4 (some .int)]
def wsX5_lost : List Cond := .code yX5_lost cX5_lost 4 (some .int) :: ((wsX5_lost_r1 ++ (wsX5_lost_r2 ++ (wsX5_lost_r3 ++ wsX5_lost_r4))) ++ wsX50)
def wsX5_surely_r1 : List Cond := [Cond.fieldLink RX5 77 "MajorityIndexModel" "thrown" "I", Cond.constant RX5 148 (-40000), Cond.fieldLink RX5 17 "MajorityIndexModel" "many" "[I", Cond.fieldLink RX5 29 "MajorityIndexModel" "voteNumber" "[I", Cond.fieldLink RX5 20 "MajorityIndexModel" "loss" "[I", Cond.fieldLink RX5 26 "MajorityIndexModel" "voteValue" "[I", Cond.methodLink RX5 142 yX5_isRange, Cond.instanceMethod yX5_isRange, Cond.selects RX5 yX5_isRange yX5_isRange, Cond.initialized RX5, Cond.code yX5_isRange cX5_isRange 3 (some .boolean), Cond.fieldLink RX5 84 "MajorityIndexModel" "n" "I", Cond.methodLink RX5 171 yX5_sums, Cond.instanceMethod yX5_sums, Cond.selects RX5 yX5_sums yX5_sums, Cond.code yX5_sums cX5_sums 3 none, Cond.fieldLink RX5 13 "MajorityIndexModel" "slots" "I", Cond.methodLink RX5 124 yX5_laysAll, Cond.instanceMethod yX5_laysAll, Cond.selects RX5 yX5_laysAll yX5_laysAll, Cond.code yX5_laysAll cX5_laysAll 2 none, Cond.fieldLink RX5 101 "MajorityIndexModel" "nodes" "I", Cond.methodLink RX5 107 yX5_lays, Cond.instanceMethod yX5_lays]
def wsX5_surely_r2 : List Cond := [Cond.selects RX5 yX5_lays yX5_lays, Cond.code yX5_lays cX5_lays 8 (some .int), Cond.fieldLink RX5 38 "MajorityIndexModel" "nodeL" "[I", Cond.fieldLink RX5 41 "MajorityIndexModel" "nodeR" "[I", Cond.fieldLink RX5 7 "MajorityIndexModel" "row" "[I", Cond.methodLink RX5 104 yX5_one, Cond.instanceMethod yX5_one, Cond.selects RX5 yX5_one yX5_one, Cond.code yX5_one cX5_one 3 none, Cond.fieldLink RX5 23 "MajorityIndexModel" "less" "[I", Cond.methodLink RX5 111 yX5_together, Cond.instanceMethod yX5_together, Cond.selects RX5 yX5_together yX5_together, Cond.code yX5_together cX5_together 9 none, Cond.fieldLink RX5 87 "MajorityIndexModel" "allMany" "I", Cond.fieldLink RX5 35 "MajorityIndexModel" "allNumber" "[I", Cond.fieldLink RX5 32 "MajorityIndexModel" "allValue" "[I", Cond.methodLink RX5 94 yX5_adds, Cond.instanceMethod yX5_adds, Cond.selects RX5 yX5_adds yX5_adds, Cond.code yX5_adds cX5_adds 4 none, Cond.methodLink RX5 98 yX5_sorts, Cond.instanceMethod yX5_sorts, Cond.selects RX5 yX5_sorts yX5_sorts]
def wsX5_surely_r3 : List Cond := [Cond.code yX5_sorts cX5_sorts 4 none, Cond.methodLink RX5 90 yX5_isAhead, Cond.instanceMethod yX5_isAhead, Cond.selects RX5 yX5_isAhead yX5_isAhead, Cond.code yX5_isAhead cX5_isAhead 3 (some .boolean), Cond.methodLink RX5 168 yX5_folds, Cond.instanceMethod yX5_folds, Cond.selects RX5 yX5_folds yX5_folds, Cond.code yX5_folds cX5_folds 6 none, Cond.fieldLink RX5 44 "MajorityIndexModel" "part" "[I", Cond.fieldLink RX5 115 "MajorityIndexModel" "partMany" "I", Cond.methodLink RX5 118 yX5_laysParts, Cond.instanceMethod yX5_laysParts, Cond.selects RX5 yX5_laysParts yX5_laysParts, Cond.code yX5_laysParts cX5_laysParts 5 none, Cond.methodLink RX5 121 yX5_copies, Cond.instanceMethod yX5_copies, Cond.selects RX5 yX5_copies yX5_copies, Cond.code yX5_copies cX5_copies 4 none]
def wsX5_surely : List Cond := .code yX5_surely cX5_surely 5 (some .int) :: ((wsX5_surely_r1 ++ (wsX5_surely_r2 ++ wsX5_surely_r3)) ++ wsX50)
def wsX5_failed_r1 : List Cond := [Cond.fieldLink RX5 77 "MajorityIndexModel" "thrown" "I", Cond.fieldLink RX5 17 "MajorityIndexModel" "many" "[I", Cond.fieldLink RX5 26 "MajorityIndexModel" "voteValue" "[I", Cond.methodLink RX5 142 yX5_isRange, Cond.instanceMethod yX5_isRange, Cond.selects RX5 yX5_isRange yX5_isRange, Cond.initialized RX5, Cond.code yX5_isRange cX5_isRange 3 (some .boolean), Cond.fieldLink RX5 84 "MajorityIndexModel" "n" "I", Cond.methodLink RX5 184 yX5_isShare, Cond.static yX5_isShare, Cond.code yX5_isShare cX5_isShare 2 (some .boolean), Cond.methodLink RX5 80 yX5_within, Cond.static yX5_within, Cond.code yX5_within cX5_within 3 (some .boolean), Cond.methodLink RX5 187 yX5_isEnough, Cond.instanceMethod yX5_isEnough, Cond.selects RX5 yX5_isEnough yX5_isEnough, Cond.code yX5_isEnough cX5_isEnough 3 (some .boolean), Cond.fieldLink RX5 13 "MajorityIndexModel" "slots" "I", Cond.methodLink RX5 171 yX5_sums, Cond.instanceMethod yX5_sums, Cond.selects RX5 yX5_sums yX5_sums, Cond.code yX5_sums cX5_sums 3 none]
def wsX5_failed_r2 : List Cond := [Cond.methodLink RX5 124 yX5_laysAll, Cond.instanceMethod yX5_laysAll, Cond.selects RX5 yX5_laysAll yX5_laysAll, Cond.code yX5_laysAll cX5_laysAll 2 none, Cond.fieldLink RX5 101 "MajorityIndexModel" "nodes" "I", Cond.methodLink RX5 107 yX5_lays, Cond.instanceMethod yX5_lays, Cond.selects RX5 yX5_lays yX5_lays, Cond.code yX5_lays cX5_lays 8 (some .int), Cond.fieldLink RX5 38 "MajorityIndexModel" "nodeL" "[I", Cond.fieldLink RX5 41 "MajorityIndexModel" "nodeR" "[I", Cond.fieldLink RX5 7 "MajorityIndexModel" "row" "[I", Cond.methodLink RX5 104 yX5_one, Cond.instanceMethod yX5_one, Cond.selects RX5 yX5_one yX5_one, Cond.code yX5_one cX5_one 3 none, Cond.fieldLink RX5 20 "MajorityIndexModel" "loss" "[I", Cond.fieldLink RX5 23 "MajorityIndexModel" "less" "[I", Cond.fieldLink RX5 29 "MajorityIndexModel" "voteNumber" "[I", Cond.methodLink RX5 111 yX5_together, Cond.instanceMethod yX5_together, Cond.selects RX5 yX5_together yX5_together, Cond.code yX5_together cX5_together 9 none, Cond.fieldLink RX5 87 "MajorityIndexModel" "allMany" "I"]
def wsX5_failed_r3 : List Cond := [Cond.fieldLink RX5 35 "MajorityIndexModel" "allNumber" "[I", Cond.fieldLink RX5 32 "MajorityIndexModel" "allValue" "[I", Cond.methodLink RX5 94 yX5_adds, Cond.instanceMethod yX5_adds, Cond.selects RX5 yX5_adds yX5_adds, Cond.code yX5_adds cX5_adds 4 none, Cond.methodLink RX5 98 yX5_sorts, Cond.instanceMethod yX5_sorts, Cond.selects RX5 yX5_sorts yX5_sorts, Cond.code yX5_sorts cX5_sorts 4 none, Cond.methodLink RX5 90 yX5_isAhead, Cond.instanceMethod yX5_isAhead, Cond.selects RX5 yX5_isAhead yX5_isAhead, Cond.code yX5_isAhead cX5_isAhead 3 (some .boolean), Cond.methodLink RX5 168 yX5_folds, Cond.instanceMethod yX5_folds, Cond.selects RX5 yX5_folds yX5_folds, Cond.code yX5_folds cX5_folds 6 none, Cond.fieldLink RX5 44 "MajorityIndexModel" "part" "[I", Cond.fieldLink RX5 115 "MajorityIndexModel" "partMany" "I", Cond.methodLink RX5 118 yX5_laysParts, Cond.instanceMethod yX5_laysParts, Cond.selects RX5 yX5_laysParts yX5_laysParts, Cond.code yX5_laysParts cX5_laysParts 5 none]
def wsX5_failed_r4 : List Cond := [Cond.methodLink RX5 121 yX5_copies, Cond.instanceMethod yX5_copies, Cond.selects RX5 yX5_copies yX5_copies, Cond.code yX5_copies cX5_copies 4 none, Cond.methodLink RX5 149 yX5_times, Cond.instanceMethod yX5_times, Cond.selects RX5 yX5_times yX5_times, Cond.code yX5_times cX5_times 6 (some .int)]
def wsX5_failed : List Cond := .code yX5_failed cX5_failed 7 (some .int) :: ((wsX5_failed_r1 ++ (wsX5_failed_r2 ++ (wsX5_failed_r3 ++ wsX5_failed_r4))) ++ wsX50)
theorem mi_wsX5_parts_wsX5_parts_r1 : ∀ w ∈ wsX5_parts_r1, w ∈ wsX5_parts := fun _ h => (List.mem_cons_of_mem _ (List.mem_append_left _ (List.mem_append_left _ h)))
theorem mi_wsX5_parts_wsX50 : ∀ w ∈ wsX50, w ∈ wsX5_parts := fun _ h => (List.mem_cons_of_mem _ (List.mem_append_right _ h))
set_option maxRecDepth 20000 in
theorem ggX5_parts_X5_isRange : GoodIn wsX5_parts wsX5_isRange := goodIn_k _ [(wsX5_parts_r1, [7, 8]), (wsX50, [0, 1, 2, 3, 4, 5, 6, 7, 8, 9, 10, 11, 12, 13, 14, 15, 16, 17, 18, 19, 20, 21, 22, 23, 24, 25, 26, 27, 28, 29])] (gk_c mi_wsX5_parts_wsX5_parts_r1 (gk_c mi_wsX5_parts_wsX50 gk_n)) rfl (by decide +kernel)
set_option maxRecDepth 20000 in
theorem gX5_parts_X5_isRange : GoodIn wsX5_parts (wsV RX5 142 RX5 yX5_isRange wsX5_isRange) := goodIn_app (goodIn_k _ [(wsX5_parts_r1, [3, 4, 5, 6])] (gk_c mi_wsX5_parts_wsX5_parts_r1 gk_n) rfl (by decide +kernel)) ggX5_parts_X5_isRange
theorem mi_wsX5_parts_wsX5_parts_r2 : ∀ w ∈ wsX5_parts_r2, w ∈ wsX5_parts := fun _ h => (List.mem_cons_of_mem _ (List.mem_append_left _ (List.mem_append_right _ (List.mem_append_left _ h))))
theorem mi_wsX5_parts_wsX5_parts_r3 : ∀ w ∈ wsX5_parts_r3, w ∈ wsX5_parts := fun _ h => (List.mem_cons_of_mem _ (List.mem_append_left _ (List.mem_append_right _ (List.mem_append_right _ h))))
set_option maxRecDepth 20000 in
theorem ggX5_parts_X5_laysAll : GoodIn wsX5_parts wsX5_laysAll := goodIn_k _ [(wsX5_parts_r1, [12, 13, 8, 14, 15, 16, 6, 17, 18, 19, 20, 21, 22, 23]), (wsX5_parts_r2, [0, 1, 2, 3, 4, 5, 6, 7, 8, 9, 10, 11, 12, 13, 14, 15, 16, 17, 18, 19, 20, 21, 22, 23]), (wsX5_parts_r3, [0]), (wsX50, [0, 1, 2, 3, 4, 5, 6, 7, 8, 9, 10, 11, 12, 13, 14, 15, 16, 17, 18, 19, 20, 21, 22, 23, 24, 25, 26, 27, 28, 29])] (gk_c mi_wsX5_parts_wsX5_parts_r1 (gk_c mi_wsX5_parts_wsX5_parts_r2 (gk_c mi_wsX5_parts_wsX5_parts_r3 (gk_c mi_wsX5_parts_wsX50 gk_n)))) rfl (by decide +kernel)
set_option maxRecDepth 20000 in
theorem gX5_parts_X5_laysAll : GoodIn wsX5_parts (wsV RX5 124 RX5 yX5_laysAll wsX5_laysAll) := goodIn_app (goodIn_k _ [(wsX5_parts_r1, [9, 10, 11, 6])] (gk_c mi_wsX5_parts_wsX5_parts_r1 gk_n) rfl (by decide +kernel)) ggX5_parts_X5_laysAll
set_option maxRecDepth 20000 in
theorem ggX5_parts_X5_laysParts : GoodIn wsX5_parts wsX5_laysParts := goodIn_k _ [(wsX5_parts_r3, [4]), (wsX5_parts_r1, [2, 13, 18, 19]), (wsX5_parts_r3, [5]), (wsX50, [0, 1, 2, 3, 4, 5, 6, 7, 8, 9, 10, 11, 12, 13, 14, 15, 16, 17, 18, 19, 20, 21, 22, 23, 24, 25, 26, 27, 28, 29])] (gk_c mi_wsX5_parts_wsX5_parts_r3 (gk_c mi_wsX5_parts_wsX5_parts_r1 (gk_c mi_wsX5_parts_wsX5_parts_r3 (gk_c mi_wsX5_parts_wsX50 gk_n)))) rfl (by decide +kernel)
set_option maxRecDepth 20000 in
theorem gX5_parts_X5_laysParts : GoodIn wsX5_parts (wsV RX5 118 RX5 yX5_laysParts wsX5_laysParts) := goodIn_app (goodIn_k _ [(wsX5_parts_r3, [1, 2, 3]), (wsX5_parts_r1, [6])] (gk_c mi_wsX5_parts_wsX5_parts_r3 (gk_c mi_wsX5_parts_wsX5_parts_r1 gk_n)) rfl (by decide +kernel)) ggX5_parts_X5_laysParts
def dt_cX5_parts_0 : List (Nat × Nat × Nat × Nat) := [(0, 42, 0, 0), (1, 3, 0, 0), (2, 181, 2, 77), (5, 42, 0, 0), (6, 27, 0, 0), (7, 28, 0, 0), (8, 182, 2, 142), (11, 154, 2, 5), (14, 2, 0, 0), (15, 172, 0, 0), (16, 42, 0, 0), (17, 42, 0, 0), (18, 180, 2, 13), (21, 182, 2, 124), (24, 42, 0, 0), (25, 27, 0, 0), (26, 28, 0, 0), (27, 182, 2, 118), (30, 42, 0, 0), (31, 180, 2, 115)]
theorem da_cX5_parts_0 : fw dt_cX5_parts_0 0 cX5_parts.data.toList = true := by decide +kernel
theorem dX5_parts_0 : decode cX5_parts 0 = .ok (.aload_n 0, 1) := fo_42 (fw_get da_cX5_parts_0 0 rfl)
theorem dX5_parts_1 : decode cX5_parts 1 = .ok (.iconst 0, 1) := fo_3 (fw_get da_cX5_parts_0 1 rfl)
theorem dX5_parts_2 : decode cX5_parts 2 = .ok (.putfield 77, 3) := fo_181 (fw_get da_cX5_parts_0 2 rfl)
theorem dX5_parts_5 : decode cX5_parts 5 = .ok (.aload_n 0, 1) := fo_42 (fw_get da_cX5_parts_0 3 rfl)
theorem dX5_parts_6 : decode cX5_parts 6 = .ok (.iload_n 1, 1) := fo_27 (fw_get da_cX5_parts_0 4 rfl)
theorem dX5_parts_7 : decode cX5_parts 7 = .ok (.iload_n 2, 1) := fo_28 (fw_get da_cX5_parts_0 5 rfl)
theorem dX5_parts_8 : decode cX5_parts 8 = .ok (.invokevirtual 142, 3) := fo_182 (fw_get da_cX5_parts_0 6 rfl)
theorem dX5_parts_11 : decode cX5_parts 11 = .ok (.ifCond .ne 5, 3) := fo_154 (fw_get da_cX5_parts_0 7 rfl) (by decide +kernel)
theorem dX5_parts_14 : decode cX5_parts 14 = .ok (.iconst (-1), 1) := fo_2 (fw_get da_cX5_parts_0 8 rfl)
theorem dX5_parts_15 : decode cX5_parts 15 = .ok (.ireturn, 1) := fo_172 (fw_get da_cX5_parts_0 9 rfl)
theorem dX5_parts_16 : decode cX5_parts 16 = .ok (.aload_n 0, 1) := fo_42 (fw_get da_cX5_parts_0 10 rfl)
theorem dX5_parts_17 : decode cX5_parts 17 = .ok (.aload_n 0, 1) := fo_42 (fw_get da_cX5_parts_0 11 rfl)
theorem dX5_parts_18 : decode cX5_parts 18 = .ok (.getfield 13, 3) := fo_180 (fw_get da_cX5_parts_0 12 rfl)
theorem dX5_parts_21 : decode cX5_parts 21 = .ok (.invokevirtual 124, 3) := fo_182 (fw_get da_cX5_parts_0 13 rfl)
theorem dX5_parts_24 : decode cX5_parts 24 = .ok (.aload_n 0, 1) := fo_42 (fw_get da_cX5_parts_0 14 rfl)
theorem dX5_parts_25 : decode cX5_parts 25 = .ok (.iload_n 1, 1) := fo_27 (fw_get da_cX5_parts_0 15 rfl)
theorem dX5_parts_26 : decode cX5_parts 26 = .ok (.iload_n 2, 1) := fo_28 (fw_get da_cX5_parts_0 16 rfl)
theorem dX5_parts_27 : decode cX5_parts 27 = .ok (.invokevirtual 118, 3) := fo_182 (fw_get da_cX5_parts_0 17 rfl)
theorem dX5_parts_30 : decode cX5_parts 30 = .ok (.aload_n 0, 1) := fo_42 (fw_get da_cX5_parts_0 18 rfl)
theorem dX5_parts_31 : decode cX5_parts 31 = .ok (.getfield 115, 3) := fo_180 (fw_get da_cX5_parts_0 19 rfl)
def dt_cX5_parts_1 : List (Nat × Nat × Nat × Nat) := [(34, 172, 0, 0)]
theorem da_cX5_parts_1 : fw dt_cX5_parts_1 0 cX5_parts.data.toList = true := by decide +kernel
theorem dX5_parts_34 : decode cX5_parts 34 = .ok (.ireturn, 1) := fo_172 (fw_get da_cX5_parts_1 0 rfl)
theorem mi_wsX5_part_wsX5_part_r1 : ∀ w ∈ wsX5_part_r1, w ∈ wsX5_part := fun _ h => (List.mem_cons_of_mem _ (List.mem_append_left _ (List.mem_append_left _ h)))
theorem mi_wsX5_part_wsX50 : ∀ w ∈ wsX50, w ∈ wsX5_part := fun _ h => (List.mem_cons_of_mem _ (List.mem_append_right _ h))
set_option maxRecDepth 20000 in
theorem ggX5_part_X5_isRange : GoodIn wsX5_part wsX5_isRange := goodIn_k _ [(wsX5_part_r1, [10, 11]), (wsX50, [0, 1, 2, 3, 4, 5, 6, 7, 8, 9, 10, 11, 12, 13, 14, 15, 16, 17, 18, 19, 20, 21, 22, 23, 24, 25, 26, 27, 28, 29])] (gk_c mi_wsX5_part_wsX5_part_r1 (gk_c mi_wsX5_part_wsX50 gk_n)) rfl (by decide +kernel)
set_option maxRecDepth 20000 in
theorem gX5_part_X5_isRange : GoodIn wsX5_part (wsV RX5 142 RX5 yX5_isRange wsX5_isRange) := goodIn_app (goodIn_k _ [(wsX5_part_r1, [6, 7, 8, 9])] (gk_c mi_wsX5_part_wsX5_part_r1 gk_n) rfl (by decide +kernel)) ggX5_part_X5_isRange
set_option maxRecDepth 20000 in
theorem ggX5_part_X5_within : GoodIn wsX5_part wsX5_within := goodIn_k _ [(wsX5_part_r1, [14])] (gk_c mi_wsX5_part_wsX5_part_r1 gk_n) rfl (by decide +kernel)
set_option maxRecDepth 20000 in
theorem gX5_part_X5_within : GoodIn wsX5_part (va_wsS RX5 80 yX5_within wsX5_within) := goodIn_app (goodIn_k _ [(wsX5_part_r1, [12, 13, 9])] (gk_c mi_wsX5_part_wsX5_part_r1 gk_n) rfl (by decide +kernel)) ggX5_part_X5_within
theorem mi_wsX5_part_wsX5_part_r2 : ∀ w ∈ wsX5_part_r2, w ∈ wsX5_part := fun _ h => (List.mem_cons_of_mem _ (List.mem_append_left _ (List.mem_append_right _ (List.mem_append_left _ h))))
theorem mi_wsX5_part_wsX5_part_r3 : ∀ w ∈ wsX5_part_r3, w ∈ wsX5_part := fun _ h => (List.mem_cons_of_mem _ (List.mem_append_left _ (List.mem_append_right _ (List.mem_append_right _ h))))
set_option maxRecDepth 20000 in
theorem ggX5_part_X5_laysAll : GoodIn wsX5_part wsX5_laysAll := goodIn_k _ [(wsX5_part_r1, [18, 19, 11, 20, 21, 22, 9, 23, 3, 5]), (wsX5_part_r2, [0, 1, 2, 3, 4, 5, 6, 7, 8, 9, 10, 11, 12, 13, 14, 15, 16, 17, 18, 19, 20, 21, 22, 23]), (wsX5_part_r3, [0, 1, 2, 3, 4]), (wsX50, [0, 1, 2, 3, 4, 5, 6, 7, 8, 9, 10, 11, 12, 13, 14, 15, 16, 17, 18, 19, 20, 21, 22, 23, 24, 25, 26, 27, 28, 29])] (gk_c mi_wsX5_part_wsX5_part_r1 (gk_c mi_wsX5_part_wsX5_part_r2 (gk_c mi_wsX5_part_wsX5_part_r3 (gk_c mi_wsX5_part_wsX50 gk_n)))) rfl (by decide +kernel)
set_option maxRecDepth 20000 in
theorem gX5_part_X5_laysAll : GoodIn wsX5_part (wsV RX5 124 RX5 yX5_laysAll wsX5_laysAll) := goodIn_app (goodIn_k _ [(wsX5_part_r1, [15, 16, 17, 9])] (gk_c mi_wsX5_part_wsX5_part_r1 gk_n) rfl (by decide +kernel)) ggX5_part_X5_laysAll
set_option maxRecDepth 20000 in
theorem ggX5_part_X5_laysParts : GoodIn wsX5_part wsX5_laysParts := goodIn_k _ [(wsX5_part_r3, [8]), (wsX5_part_r1, [2, 19, 3, 5, 4]), (wsX50, [0, 1, 2, 3, 4, 5, 6, 7, 8, 9, 10, 11, 12, 13, 14, 15, 16, 17, 18, 19, 20, 21, 22, 23, 24, 25, 26, 27, 28, 29])] (gk_c mi_wsX5_part_wsX5_part_r3 (gk_c mi_wsX5_part_wsX5_part_r1 (gk_c mi_wsX5_part_wsX50 gk_n))) rfl (by decide +kernel)
set_option maxRecDepth 20000 in
theorem gX5_part_X5_laysParts : GoodIn wsX5_part (wsV RX5 118 RX5 yX5_laysParts wsX5_laysParts) := goodIn_app (goodIn_k _ [(wsX5_part_r3, [5, 6, 7]), (wsX5_part_r1, [9])] (gk_c mi_wsX5_part_wsX5_part_r3 (gk_c mi_wsX5_part_wsX5_part_r1 gk_n)) rfl (by decide +kernel)) ggX5_part_X5_laysParts
def dt_cX5_part_0 : List (Nat × Nat × Nat × Nat) := [(0, 42, 0, 0), (1, 3, 0, 0), (2, 181, 2, 77), (5, 42, 0, 0), (6, 27, 0, 0), (7, 28, 0, 0), (8, 182, 2, 142), (11, 153, 2, 13), (14, 21, 1, 4), (16, 3, 0, 0), (17, 4, 0, 0), (18, 184, 2, 80), (21, 154, 2, 5), (24, 2, 0, 0), (25, 172, 0, 0), (26, 42, 0, 0), (27, 42, 0, 0), (28, 180, 2, 13), (31, 182, 2, 124), (34, 42, 0, 0)]
theorem da_cX5_part_0 : fw dt_cX5_part_0 0 cX5_part.data.toList = true := by decide +kernel
theorem dX5_part_0 : decode cX5_part 0 = .ok (.aload_n 0, 1) := fo_42 (fw_get da_cX5_part_0 0 rfl)
theorem dX5_part_1 : decode cX5_part 1 = .ok (.iconst 0, 1) := fo_3 (fw_get da_cX5_part_0 1 rfl)
theorem dX5_part_2 : decode cX5_part 2 = .ok (.putfield 77, 3) := fo_181 (fw_get da_cX5_part_0 2 rfl)
theorem dX5_part_5 : decode cX5_part 5 = .ok (.aload_n 0, 1) := fo_42 (fw_get da_cX5_part_0 3 rfl)
theorem dX5_part_6 : decode cX5_part 6 = .ok (.iload_n 1, 1) := fo_27 (fw_get da_cX5_part_0 4 rfl)
theorem dX5_part_7 : decode cX5_part 7 = .ok (.iload_n 2, 1) := fo_28 (fw_get da_cX5_part_0 5 rfl)
theorem dX5_part_8 : decode cX5_part 8 = .ok (.invokevirtual 142, 3) := fo_182 (fw_get da_cX5_part_0 6 rfl)
theorem dX5_part_11 : decode cX5_part 11 = .ok (.ifCond .eq 13, 3) := fo_153 (fw_get da_cX5_part_0 7 rfl) (by decide +kernel)
theorem dX5_part_14 : decode cX5_part 14 = .ok (.iload 4, 2) := fo_21 (fw_get da_cX5_part_0 8 rfl)
theorem dX5_part_16 : decode cX5_part 16 = .ok (.iconst 0, 1) := fo_3 (fw_get da_cX5_part_0 9 rfl)
theorem dX5_part_17 : decode cX5_part 17 = .ok (.iconst 1, 1) := fo_4 (fw_get da_cX5_part_0 10 rfl)
theorem dX5_part_18 : decode cX5_part 18 = .ok (.invokestatic 80, 3) := fo_184 (fw_get da_cX5_part_0 11 rfl)
theorem dX5_part_21 : decode cX5_part 21 = .ok (.ifCond .ne 5, 3) := fo_154 (fw_get da_cX5_part_0 12 rfl) (by decide +kernel)
theorem dX5_part_24 : decode cX5_part 24 = .ok (.iconst (-1), 1) := fo_2 (fw_get da_cX5_part_0 13 rfl)
theorem dX5_part_25 : decode cX5_part 25 = .ok (.ireturn, 1) := fo_172 (fw_get da_cX5_part_0 14 rfl)
theorem dX5_part_26 : decode cX5_part 26 = .ok (.aload_n 0, 1) := fo_42 (fw_get da_cX5_part_0 15 rfl)
theorem dX5_part_27 : decode cX5_part 27 = .ok (.aload_n 0, 1) := fo_42 (fw_get da_cX5_part_0 16 rfl)
theorem dX5_part_28 : decode cX5_part 28 = .ok (.getfield 13, 3) := fo_180 (fw_get da_cX5_part_0 17 rfl)
theorem dX5_part_31 : decode cX5_part 31 = .ok (.invokevirtual 124, 3) := fo_182 (fw_get da_cX5_part_0 18 rfl)
theorem dX5_part_34 : decode cX5_part 34 = .ok (.aload_n 0, 1) := fo_42 (fw_get da_cX5_part_0 19 rfl)
def dt_cX5_part_1 : List (Nat × Nat × Nat × Nat) := [(35, 27, 0, 0), (36, 28, 0, 0), (37, 182, 2, 118), (40, 29, 0, 0), (41, 3, 0, 0), (42, 42, 0, 0), (43, 180, 2, 115), (46, 4, 0, 0), (47, 100, 0, 0), (48, 184, 2, 80), (51, 154, 2, 5), (54, 2, 0, 0), (55, 172, 0, 0), (56, 21, 1, 4), (58, 154, 2, 17), (61, 42, 0, 0), (62, 180, 2, 38), (65, 42, 0, 0), (66, 180, 2, 44), (69, 29, 0, 0)]
theorem da_cX5_part_1 : fw dt_cX5_part_1 0 cX5_part.data.toList = true := by decide +kernel
theorem dX5_part_35 : decode cX5_part 35 = .ok (.iload_n 1, 1) := fo_27 (fw_get da_cX5_part_1 0 rfl)
theorem dX5_part_36 : decode cX5_part 36 = .ok (.iload_n 2, 1) := fo_28 (fw_get da_cX5_part_1 1 rfl)
theorem dX5_part_37 : decode cX5_part 37 = .ok (.invokevirtual 118, 3) := fo_182 (fw_get da_cX5_part_1 2 rfl)
theorem dX5_part_40 : decode cX5_part 40 = .ok (.iload_n 3, 1) := fo_29 (fw_get da_cX5_part_1 3 rfl)
theorem dX5_part_41 : decode cX5_part 41 = .ok (.iconst 0, 1) := fo_3 (fw_get da_cX5_part_1 4 rfl)
theorem dX5_part_42 : decode cX5_part 42 = .ok (.aload_n 0, 1) := fo_42 (fw_get da_cX5_part_1 5 rfl)
theorem dX5_part_43 : decode cX5_part 43 = .ok (.getfield 115, 3) := fo_180 (fw_get da_cX5_part_1 6 rfl)
theorem dX5_part_46 : decode cX5_part 46 = .ok (.iconst 1, 1) := fo_4 (fw_get da_cX5_part_1 7 rfl)
theorem dX5_part_47 : decode cX5_part 47 = .ok (.isub, 1) := fo_100 (fw_get da_cX5_part_1 8 rfl)
theorem dX5_part_48 : decode cX5_part 48 = .ok (.invokestatic 80, 3) := fo_184 (fw_get da_cX5_part_1 9 rfl)
theorem dX5_part_51 : decode cX5_part 51 = .ok (.ifCond .ne 5, 3) := fo_154 (fw_get da_cX5_part_1 10 rfl) (by decide +kernel)
theorem dX5_part_54 : decode cX5_part 54 = .ok (.iconst (-1), 1) := fo_2 (fw_get da_cX5_part_1 11 rfl)
theorem dX5_part_55 : decode cX5_part 55 = .ok (.ireturn, 1) := fo_172 (fw_get da_cX5_part_1 12 rfl)
theorem dX5_part_56 : decode cX5_part 56 = .ok (.iload 4, 2) := fo_21 (fw_get da_cX5_part_1 13 rfl)
theorem dX5_part_58 : decode cX5_part 58 = .ok (.ifCond .ne 17, 3) := fo_154 (fw_get da_cX5_part_1 14 rfl) (by decide +kernel)
theorem dX5_part_61 : decode cX5_part 61 = .ok (.aload_n 0, 1) := fo_42 (fw_get da_cX5_part_1 15 rfl)
theorem dX5_part_62 : decode cX5_part 62 = .ok (.getfield 38, 3) := fo_180 (fw_get da_cX5_part_1 16 rfl)
theorem dX5_part_65 : decode cX5_part 65 = .ok (.aload_n 0, 1) := fo_42 (fw_get da_cX5_part_1 17 rfl)
theorem dX5_part_66 : decode cX5_part 66 = .ok (.getfield 44, 3) := fo_180 (fw_get da_cX5_part_1 18 rfl)
theorem dX5_part_69 : decode cX5_part 69 = .ok (.iload_n 3, 1) := fo_29 (fw_get da_cX5_part_1 19 rfl)
def dt_cX5_part_2 : List (Nat × Nat × Nat × Nat) := [(70, 46, 0, 0), (71, 46, 0, 0), (72, 167, 2, 14), (75, 42, 0, 0), (76, 180, 2, 41), (79, 42, 0, 0), (80, 180, 2, 44), (83, 29, 0, 0), (84, 46, 0, 0), (85, 46, 0, 0), (86, 172, 0, 0)]
theorem da_cX5_part_2 : fw dt_cX5_part_2 0 cX5_part.data.toList = true := by decide +kernel
theorem dX5_part_70 : decode cX5_part 70 = .ok (.iaload, 1) := fo_46 (fw_get da_cX5_part_2 0 rfl)
theorem dX5_part_71 : decode cX5_part 71 = .ok (.iaload, 1) := fo_46 (fw_get da_cX5_part_2 1 rfl)
theorem dX5_part_72 : decode cX5_part 72 = .ok (.goto 14, 3) := fo_167 (fw_get da_cX5_part_2 2 rfl) (by decide +kernel)
theorem dX5_part_75 : decode cX5_part 75 = .ok (.aload_n 0, 1) := fo_42 (fw_get da_cX5_part_2 3 rfl)
theorem dX5_part_76 : decode cX5_part 76 = .ok (.getfield 41, 3) := fo_180 (fw_get da_cX5_part_2 4 rfl)
theorem dX5_part_79 : decode cX5_part 79 = .ok (.aload_n 0, 1) := fo_42 (fw_get da_cX5_part_2 5 rfl)
theorem dX5_part_80 : decode cX5_part 80 = .ok (.getfield 44, 3) := fo_180 (fw_get da_cX5_part_2 6 rfl)
theorem dX5_part_83 : decode cX5_part 83 = .ok (.iload_n 3, 1) := fo_29 (fw_get da_cX5_part_2 7 rfl)
theorem dX5_part_84 : decode cX5_part 84 = .ok (.iaload, 1) := fo_46 (fw_get da_cX5_part_2 8 rfl)
theorem dX5_part_85 : decode cX5_part 85 = .ok (.iaload, 1) := fo_46 (fw_get da_cX5_part_2 9 rfl)
theorem dX5_part_86 : decode cX5_part 86 = .ok (.ireturn, 1) := fo_172 (fw_get da_cX5_part_2 10 rfl)
theorem mi_wsX5_sums_wsX5_sums_r1 : ∀ w ∈ wsX5_sums_r1, w ∈ wsX5_sums := fun _ h => (List.mem_cons_of_mem _ (List.mem_append_left _ (List.mem_append_left _ h)))
theorem mi_wsX5_sums_wsX5_sums_r2 : ∀ w ∈ wsX5_sums_r2, w ∈ wsX5_sums := fun _ h => (List.mem_cons_of_mem _ (List.mem_append_left _ (List.mem_append_right _ (List.mem_append_left _ h))))
theorem mi_wsX5_sums_wsX50 : ∀ w ∈ wsX50, w ∈ wsX5_sums := fun _ h => (List.mem_cons_of_mem _ (List.mem_append_right _ h))
set_option maxRecDepth 20000 in
theorem ggX5_sums_X5_laysAll : GoodIn wsX5_sums wsX5_laysAll := goodIn_k _ [(wsX5_sums_r1, [5, 6, 7, 8, 9, 10, 4, 11, 12, 13, 14, 15, 16, 17, 18, 19, 20, 21, 22, 23]), (wsX5_sums_r2, [0, 1, 2, 3, 4, 5, 6, 7, 8, 9, 10, 11, 12, 13, 14, 15, 16, 17, 18]), (wsX50, [0, 1, 2, 3, 4, 5, 6, 7, 8, 9, 10, 11, 12, 13, 14, 15, 16, 17, 18, 19, 20, 21, 22, 23, 24, 25, 26, 27, 28, 29])] (gk_c mi_wsX5_sums_wsX5_sums_r1 (gk_c mi_wsX5_sums_wsX5_sums_r2 (gk_c mi_wsX5_sums_wsX50 gk_n))) rfl (by decide +kernel)
set_option maxRecDepth 20000 in
theorem gX5_sums_X5_laysAll : GoodIn wsX5_sums (wsV RX5 124 RX5 yX5_laysAll wsX5_laysAll) := goodIn_app (goodIn_k _ [(wsX5_sums_r1, [1, 2, 3, 4])] (gk_c mi_wsX5_sums_wsX5_sums_r1 gk_n) rfl (by decide +kernel)) ggX5_sums_X5_laysAll
theorem mi_wsX5_sums_wsX5_sums_r3 : ∀ w ∈ wsX5_sums_r3, w ∈ wsX5_sums := fun _ h => (List.mem_cons_of_mem _ (List.mem_append_left _ (List.mem_append_right _ (List.mem_append_right _ h))))
set_option maxRecDepth 20000 in
theorem ggX5_sums_X5_folds : GoodIn wsX5_sums wsX5_folds := goodIn_k _ [(wsX5_sums_r2, [22, 23]), (wsX5_sums_r3, [0, 1, 2, 3]), (wsX5_sums_r1, [4]), (wsX5_sums_r3, [4]), (wsX5_sums_r1, [6, 12, 13]), (wsX5_sums_r3, [5, 6, 7, 8]), (wsX5_sums_r1, [19, 20, 21, 22, 23]), (wsX5_sums_r2, [0, 1, 2, 3, 4, 5, 6, 7, 8, 9, 10, 11, 12, 13, 14, 15, 16, 17, 18]), (wsX50, [0, 1, 2, 3, 4, 5, 6, 7, 8, 9, 10, 11, 12, 13, 14, 15, 16, 17, 18, 19, 20, 21, 22, 23, 24, 25, 26, 27, 28, 29])] (gk_c mi_wsX5_sums_wsX5_sums_r2 (gk_c mi_wsX5_sums_wsX5_sums_r3 (gk_c mi_wsX5_sums_wsX5_sums_r1 (gk_c mi_wsX5_sums_wsX5_sums_r3 (gk_c mi_wsX5_sums_wsX5_sums_r1 (gk_c mi_wsX5_sums_wsX5_sums_r3 (gk_c mi_wsX5_sums_wsX5_sums_r1 (gk_c mi_wsX5_sums_wsX5_sums_r2 (gk_c mi_wsX5_sums_wsX50 gk_n))))))))) rfl (by decide +kernel)
set_option maxRecDepth 20000 in
theorem gX5_sums_X5_folds : GoodIn wsX5_sums (wsV RX5 168 RX5 yX5_folds wsX5_folds) := goodIn_app (goodIn_k _ [(wsX5_sums_r2, [19, 20, 21]), (wsX5_sums_r1, [4])] (gk_c mi_wsX5_sums_wsX5_sums_r2 (gk_c mi_wsX5_sums_wsX5_sums_r1 gk_n)) rfl (by decide +kernel)) ggX5_sums_X5_folds
def dt_cX5_sums_0 : List (Nat × Nat × Nat × Nat) := [(0, 42, 0, 0), (1, 42, 0, 0), (2, 180, 2, 13), (5, 182, 2, 124), (8, 42, 0, 0), (9, 27, 0, 0), (10, 28, 0, 0), (11, 17, 2, 320), (14, 42, 0, 0), (15, 180, 2, 13), (18, 182, 2, 168), (21, 177, 0, 0)]
theorem da_cX5_sums_0 : fw dt_cX5_sums_0 0 cX5_sums.data.toList = true := by decide +kernel
theorem dX5_sums_0 : decode cX5_sums 0 = .ok (.aload_n 0, 1) := fo_42 (fw_get da_cX5_sums_0 0 rfl)
theorem dX5_sums_1 : decode cX5_sums 1 = .ok (.aload_n 0, 1) := fo_42 (fw_get da_cX5_sums_0 1 rfl)
theorem dX5_sums_2 : decode cX5_sums 2 = .ok (.getfield 13, 3) := fo_180 (fw_get da_cX5_sums_0 2 rfl)
theorem dX5_sums_5 : decode cX5_sums 5 = .ok (.invokevirtual 124, 3) := fo_182 (fw_get da_cX5_sums_0 3 rfl)
theorem dX5_sums_8 : decode cX5_sums 8 = .ok (.aload_n 0, 1) := fo_42 (fw_get da_cX5_sums_0 4 rfl)
theorem dX5_sums_9 : decode cX5_sums 9 = .ok (.iload_n 1, 1) := fo_27 (fw_get da_cX5_sums_0 5 rfl)
theorem dX5_sums_10 : decode cX5_sums 10 = .ok (.iload_n 2, 1) := fo_28 (fw_get da_cX5_sums_0 6 rfl)
theorem dX5_sums_11 : decode cX5_sums 11 = .ok (.sipush 320, 3) := fo_17 (fw_get da_cX5_sums_0 7 rfl) (by decide +kernel)
theorem dX5_sums_14 : decode cX5_sums 14 = .ok (.aload_n 0, 1) := fo_42 (fw_get da_cX5_sums_0 8 rfl)
theorem dX5_sums_15 : decode cX5_sums 15 = .ok (.getfield 13, 3) := fo_180 (fw_get da_cX5_sums_0 9 rfl)
theorem dX5_sums_18 : decode cX5_sums 18 = .ok (.invokevirtual 168, 3) := fo_182 (fw_get da_cX5_sums_0 10 rfl)
theorem dX5_sums_21 : decode cX5_sums 21 = .ok (.return_, 1) := fo_177 (fw_get da_cX5_sums_0 11 rfl)
theorem mi_wsX5_summary_wsX5_summary_r1 : ∀ w ∈ wsX5_summary_r1, w ∈ wsX5_summary := fun _ h => (List.mem_cons_of_mem _ (List.mem_append_left _ (List.mem_append_left _ h)))
theorem mi_wsX5_summary_wsX50 : ∀ w ∈ wsX50, w ∈ wsX5_summary := fun _ h => (List.mem_cons_of_mem _ (List.mem_append_right _ h))
set_option maxRecDepth 20000 in
theorem ggX5_summary_X5_isRange : GoodIn wsX5_summary wsX5_isRange := goodIn_k _ [(wsX5_summary_r1, [7, 8]), (wsX50, [0, 1, 2, 3, 4, 5, 6, 7, 8, 9, 10, 11, 12, 13, 14, 15, 16, 17, 18, 19, 20, 21, 22, 23, 24, 25, 26, 27, 28, 29])] (gk_c mi_wsX5_summary_wsX5_summary_r1 (gk_c mi_wsX5_summary_wsX50 gk_n)) rfl (by decide +kernel)
set_option maxRecDepth 20000 in
theorem gX5_summary_X5_isRange : GoodIn wsX5_summary (wsV RX5 142 RX5 yX5_isRange wsX5_isRange) := goodIn_app (goodIn_k _ [(wsX5_summary_r1, [3, 4, 5, 6])] (gk_c mi_wsX5_summary_wsX5_summary_r1 gk_n) rfl (by decide +kernel)) ggX5_summary_X5_isRange
set_option maxRecDepth 20000 in
theorem ggX5_summary_X5_within : GoodIn wsX5_summary wsX5_within := goodIn_k _ [(wsX5_summary_r1, [11])] (gk_c mi_wsX5_summary_wsX5_summary_r1 gk_n) rfl (by decide +kernel)
set_option maxRecDepth 20000 in
theorem gX5_summary_X5_within : GoodIn wsX5_summary (va_wsS RX5 80 yX5_within wsX5_within) := goodIn_app (goodIn_k _ [(wsX5_summary_r1, [9, 10, 6])] (gk_c mi_wsX5_summary_wsX5_summary_r1 gk_n) rfl (by decide +kernel)) ggX5_summary_X5_within
theorem mi_wsX5_summary_wsX5_summary_r2 : ∀ w ∈ wsX5_summary_r2, w ∈ wsX5_summary := fun _ h => (List.mem_cons_of_mem _ (List.mem_append_left _ (List.mem_append_right _ (List.mem_append_left _ h))))
theorem mi_wsX5_summary_wsX5_summary_r3 : ∀ w ∈ wsX5_summary_r3, w ∈ wsX5_summary := fun _ h => (List.mem_cons_of_mem _ (List.mem_append_left _ (List.mem_append_right _ (List.mem_append_right _ (List.mem_append_left _ h)))))
set_option maxRecDepth 20000 in
theorem ggX5_summary_X5_sums : GoodIn wsX5_summary wsX5_sums := goodIn_k _ [(wsX5_summary_r1, [15, 16, 17, 18, 19, 6, 20, 21, 8, 22, 23]), (wsX5_summary_r2, [0, 1, 2, 3, 4, 5, 6, 7, 8]), (wsX5_summary_r1, [1, 2]), (wsX5_summary_r2, [9, 10, 11, 12, 13, 14, 15, 16, 17, 18, 19, 20, 21, 22, 23]), (wsX5_summary_r3, [0, 1, 2, 3, 4, 5, 6, 7, 8, 9, 10, 11, 12, 13, 14, 15, 16, 17, 18, 19, 20]), (wsX50, [0, 1, 2, 3, 4, 5, 6, 7, 8, 9, 10, 11, 12, 13, 14, 15, 16, 17, 18, 19, 20, 21, 22, 23, 24, 25, 26, 27, 28, 29])] (gk_c mi_wsX5_summary_wsX5_summary_r1 (gk_c mi_wsX5_summary_wsX5_summary_r2 (gk_c mi_wsX5_summary_wsX5_summary_r1 (gk_c mi_wsX5_summary_wsX5_summary_r2 (gk_c mi_wsX5_summary_wsX5_summary_r3 (gk_c mi_wsX5_summary_wsX50 gk_n)))))) rfl (by decide +kernel)
set_option maxRecDepth 20000 in
theorem gX5_summary_X5_sums : GoodIn wsX5_summary (wsV RX5 171 RX5 yX5_sums wsX5_sums) := goodIn_app (goodIn_k _ [(wsX5_summary_r1, [12, 13, 14, 6])] (gk_c mi_wsX5_summary_wsX5_summary_r1 gk_n) rfl (by decide +kernel)) ggX5_summary_X5_sums
theorem mi_wsX5_summary_wsX5_summary_r4 : ∀ w ∈ wsX5_summary_r4, w ∈ wsX5_summary := fun _ h => (List.mem_cons_of_mem _ (List.mem_append_left _ (List.mem_append_right _ (List.mem_append_right _ (List.mem_append_right _ h)))))
set_option maxRecDepth 20000 in
theorem ggX5_summary_X5_numbersOf : GoodIn wsX5_summary wsX5_numbersOf := goodIn_k _ [(wsX5_summary_r4, [0]), (wsX5_summary_r1, [1]), (wsX5_summary_r2, [11]), (wsX50, [0, 1, 2, 3, 4, 5, 6, 7, 8, 9, 10, 11, 12, 13, 14, 15, 16, 17, 18, 19, 20, 21, 22, 23, 24, 25, 26, 27, 28, 29])] (gk_c mi_wsX5_summary_wsX5_summary_r4 (gk_c mi_wsX5_summary_wsX5_summary_r1 (gk_c mi_wsX5_summary_wsX5_summary_r2 (gk_c mi_wsX5_summary_wsX50 gk_n)))) rfl (by decide +kernel)
set_option maxRecDepth 20000 in
theorem gX5_summary_X5_numbersOf : GoodIn wsX5_summary (wsV RX5 174 RX5 yX5_numbersOf wsX5_numbersOf) := goodIn_app (goodIn_k _ [(wsX5_summary_r3, [21, 22, 23]), (wsX5_summary_r1, [6])] (gk_c mi_wsX5_summary_wsX5_summary_r3 (gk_c mi_wsX5_summary_wsX5_summary_r1 gk_n)) rfl (by decide +kernel)) ggX5_summary_X5_numbersOf
def dt_cX5_summary_0 : List (Nat × Nat × Nat × Nat) := [(0, 42, 0, 0), (1, 3, 0, 0), (2, 181, 2, 77), (5, 42, 0, 0), (6, 27, 0, 0), (7, 28, 0, 0), (8, 182, 2, 142), (11, 153, 2, 12), (14, 29, 0, 0), (15, 3, 0, 0), (16, 5, 0, 0), (17, 184, 2, 80), (20, 154, 2, 5), (23, 2, 0, 0), (24, 172, 0, 0), (25, 42, 0, 0), (26, 27, 0, 0), (27, 28, 0, 0), (28, 182, 2, 171), (31, 29, 0, 0)]
theorem da_cX5_summary_0 : fw dt_cX5_summary_0 0 cX5_summary.data.toList = true := by decide +kernel
theorem dX5_summary_0 : decode cX5_summary 0 = .ok (.aload_n 0, 1) := fo_42 (fw_get da_cX5_summary_0 0 rfl)
theorem dX5_summary_1 : decode cX5_summary 1 = .ok (.iconst 0, 1) := fo_3 (fw_get da_cX5_summary_0 1 rfl)
theorem dX5_summary_2 : decode cX5_summary 2 = .ok (.putfield 77, 3) := fo_181 (fw_get da_cX5_summary_0 2 rfl)
theorem dX5_summary_5 : decode cX5_summary 5 = .ok (.aload_n 0, 1) := fo_42 (fw_get da_cX5_summary_0 3 rfl)
theorem dX5_summary_6 : decode cX5_summary 6 = .ok (.iload_n 1, 1) := fo_27 (fw_get da_cX5_summary_0 4 rfl)
theorem dX5_summary_7 : decode cX5_summary 7 = .ok (.iload_n 2, 1) := fo_28 (fw_get da_cX5_summary_0 5 rfl)
theorem dX5_summary_8 : decode cX5_summary 8 = .ok (.invokevirtual 142, 3) := fo_182 (fw_get da_cX5_summary_0 6 rfl)
theorem dX5_summary_11 : decode cX5_summary 11 = .ok (.ifCond .eq 12, 3) := fo_153 (fw_get da_cX5_summary_0 7 rfl) (by decide +kernel)
theorem dX5_summary_14 : decode cX5_summary 14 = .ok (.iload_n 3, 1) := fo_29 (fw_get da_cX5_summary_0 8 rfl)
theorem dX5_summary_15 : decode cX5_summary 15 = .ok (.iconst 0, 1) := fo_3 (fw_get da_cX5_summary_0 9 rfl)
theorem dX5_summary_16 : decode cX5_summary 16 = .ok (.iconst 2, 1) := fo_5 (fw_get da_cX5_summary_0 10 rfl)
theorem dX5_summary_17 : decode cX5_summary 17 = .ok (.invokestatic 80, 3) := fo_184 (fw_get da_cX5_summary_0 11 rfl)
theorem dX5_summary_20 : decode cX5_summary 20 = .ok (.ifCond .ne 5, 3) := fo_154 (fw_get da_cX5_summary_0 12 rfl) (by decide +kernel)
theorem dX5_summary_23 : decode cX5_summary 23 = .ok (.iconst (-1), 1) := fo_2 (fw_get da_cX5_summary_0 13 rfl)
theorem dX5_summary_24 : decode cX5_summary 24 = .ok (.ireturn, 1) := fo_172 (fw_get da_cX5_summary_0 14 rfl)
theorem dX5_summary_25 : decode cX5_summary 25 = .ok (.aload_n 0, 1) := fo_42 (fw_get da_cX5_summary_0 15 rfl)
theorem dX5_summary_26 : decode cX5_summary 26 = .ok (.iload_n 1, 1) := fo_27 (fw_get da_cX5_summary_0 16 rfl)
theorem dX5_summary_27 : decode cX5_summary 27 = .ok (.iload_n 2, 1) := fo_28 (fw_get da_cX5_summary_0 17 rfl)
theorem dX5_summary_28 : decode cX5_summary 28 = .ok (.invokevirtual 171, 3) := fo_182 (fw_get da_cX5_summary_0 18 rfl)
theorem dX5_summary_31 : decode cX5_summary 31 = .ok (.iload_n 3, 1) := fo_29 (fw_get da_cX5_summary_0 19 rfl)
def dt_cX5_summary_1 : List (Nat × Nat × Nat × Nat) := [(32, 154, 2, 14), (35, 42, 0, 0), (36, 180, 2, 17), (39, 17, 2, 320), (42, 46, 0, 0), (43, 167, 2, 26), (46, 29, 0, 0), (47, 4, 0, 0), (48, 160, 2, 13), (51, 42, 0, 0), (52, 17, 2, 320), (55, 182, 2, 174), (58, 167, 2, 11), (61, 42, 0, 0), (62, 180, 2, 20), (65, 17, 2, 320), (68, 46, 0, 0), (69, 172, 0, 0)]
theorem da_cX5_summary_1 : fw dt_cX5_summary_1 0 cX5_summary.data.toList = true := by decide +kernel
theorem dX5_summary_32 : decode cX5_summary 32 = .ok (.ifCond .ne 14, 3) := fo_154 (fw_get da_cX5_summary_1 0 rfl) (by decide +kernel)
theorem dX5_summary_35 : decode cX5_summary 35 = .ok (.aload_n 0, 1) := fo_42 (fw_get da_cX5_summary_1 1 rfl)
theorem dX5_summary_36 : decode cX5_summary 36 = .ok (.getfield 17, 3) := fo_180 (fw_get da_cX5_summary_1 2 rfl)
theorem dX5_summary_39 : decode cX5_summary 39 = .ok (.sipush 320, 3) := fo_17 (fw_get da_cX5_summary_1 3 rfl) (by decide +kernel)
theorem dX5_summary_42 : decode cX5_summary 42 = .ok (.iaload, 1) := fo_46 (fw_get da_cX5_summary_1 4 rfl)
theorem dX5_summary_43 : decode cX5_summary 43 = .ok (.goto 26, 3) := fo_167 (fw_get da_cX5_summary_1 5 rfl) (by decide +kernel)
theorem dX5_summary_46 : decode cX5_summary 46 = .ok (.iload_n 3, 1) := fo_29 (fw_get da_cX5_summary_1 6 rfl)
theorem dX5_summary_47 : decode cX5_summary 47 = .ok (.iconst 1, 1) := fo_4 (fw_get da_cX5_summary_1 7 rfl)
theorem dX5_summary_48 : decode cX5_summary 48 = .ok (.if_icmp .ne 13, 3) := fo_160 (fw_get da_cX5_summary_1 8 rfl) (by decide +kernel)
theorem dX5_summary_51 : decode cX5_summary 51 = .ok (.aload_n 0, 1) := fo_42 (fw_get da_cX5_summary_1 9 rfl)
theorem dX5_summary_52 : decode cX5_summary 52 = .ok (.sipush 320, 3) := fo_17 (fw_get da_cX5_summary_1 10 rfl) (by decide +kernel)
theorem dX5_summary_55 : decode cX5_summary 55 = .ok (.invokevirtual 174, 3) := fo_182 (fw_get da_cX5_summary_1 11 rfl)
theorem dX5_summary_58 : decode cX5_summary 58 = .ok (.goto 11, 3) := fo_167 (fw_get da_cX5_summary_1 12 rfl) (by decide +kernel)
theorem dX5_summary_61 : decode cX5_summary 61 = .ok (.aload_n 0, 1) := fo_42 (fw_get da_cX5_summary_1 13 rfl)
theorem dX5_summary_62 : decode cX5_summary 62 = .ok (.getfield 20, 3) := fo_180 (fw_get da_cX5_summary_1 14 rfl)
theorem dX5_summary_65 : decode cX5_summary 65 = .ok (.sipush 320, 3) := fo_17 (fw_get da_cX5_summary_1 15 rfl) (by decide +kernel)
theorem dX5_summary_68 : decode cX5_summary 68 = .ok (.iaload, 1) := fo_46 (fw_get da_cX5_summary_1 16 rfl)
theorem dX5_summary_69 : decode cX5_summary 69 = .ok (.ireturn, 1) := fo_172 (fw_get da_cX5_summary_1 17 rfl)
theorem mi_wsX5_candidate_wsX5_candidate_r1 : ∀ w ∈ wsX5_candidate_r1, w ∈ wsX5_candidate := fun _ h => (List.mem_cons_of_mem _ (List.mem_append_left _ (List.mem_append_left _ h)))
theorem mi_wsX5_candidate_wsX50 : ∀ w ∈ wsX50, w ∈ wsX5_candidate := fun _ h => (List.mem_cons_of_mem _ (List.mem_append_right _ h))
set_option maxRecDepth 20000 in
theorem ggX5_candidate_X5_isRange : GoodIn wsX5_candidate wsX5_isRange := goodIn_k _ [(wsX5_candidate_r1, [8, 9]), (wsX50, [0, 1, 2, 3, 4, 5, 6, 7, 8, 9, 10, 11, 12, 13, 14, 15, 16, 17, 18, 19, 20, 21, 22, 23, 24, 25, 26, 27, 28, 29])] (gk_c mi_wsX5_candidate_wsX5_candidate_r1 (gk_c mi_wsX5_candidate_wsX50 gk_n)) rfl (by decide +kernel)
set_option maxRecDepth 20000 in
theorem gX5_candidate_X5_isRange : GoodIn wsX5_candidate (wsV RX5 142 RX5 yX5_isRange wsX5_isRange) := goodIn_app (goodIn_k _ [(wsX5_candidate_r1, [4, 5, 6, 7])] (gk_c mi_wsX5_candidate_wsX5_candidate_r1 gk_n) rfl (by decide +kernel)) ggX5_candidate_X5_isRange
set_option maxRecDepth 20000 in
theorem ggX5_candidate_X5_within : GoodIn wsX5_candidate wsX5_within := goodIn_k _ [(wsX5_candidate_r1, [12])] (gk_c mi_wsX5_candidate_wsX5_candidate_r1 gk_n) rfl (by decide +kernel)
set_option maxRecDepth 20000 in
theorem gX5_candidate_X5_within : GoodIn wsX5_candidate (va_wsS RX5 80 yX5_within wsX5_within) := goodIn_app (goodIn_k _ [(wsX5_candidate_r1, [10, 11, 7])] (gk_c mi_wsX5_candidate_wsX5_candidate_r1 gk_n) rfl (by decide +kernel)) ggX5_candidate_X5_within
theorem mi_wsX5_candidate_wsX5_candidate_r2 : ∀ w ∈ wsX5_candidate_r2, w ∈ wsX5_candidate := fun _ h => (List.mem_cons_of_mem _ (List.mem_append_left _ (List.mem_append_right _ (List.mem_append_left _ h))))
theorem mi_wsX5_candidate_wsX5_candidate_r3 : ∀ w ∈ wsX5_candidate_r3, w ∈ wsX5_candidate := fun _ h => (List.mem_cons_of_mem _ (List.mem_append_left _ (List.mem_append_right _ (List.mem_append_right _ (List.mem_append_left _ h)))))
set_option maxRecDepth 20000 in
theorem ggX5_candidate_X5_sums : GoodIn wsX5_candidate wsX5_sums := goodIn_k _ [(wsX5_candidate_r1, [16, 17, 18, 19, 20, 7, 21, 22, 9, 23]), (wsX5_candidate_r2, [0, 1, 2, 3, 4, 5, 6, 7, 8, 9]), (wsX5_candidate_r1, [1]), (wsX5_candidate_r2, [10, 11]), (wsX5_candidate_r1, [2, 3]), (wsX5_candidate_r2, [12, 13, 14, 15, 16, 17, 18, 19, 20, 21, 22, 23]), (wsX5_candidate_r3, [0, 1, 2, 3, 4, 5, 6, 7, 8, 9, 10, 11, 12, 13, 14, 15, 16, 17, 18, 19, 20]), (wsX50, [0, 1, 2, 3, 4, 5, 6, 7, 8, 9, 10, 11, 12, 13, 14, 15, 16, 17, 18, 19, 20, 21, 22, 23, 24, 25, 26, 27, 28, 29])] (gk_c mi_wsX5_candidate_wsX5_candidate_r1 (gk_c mi_wsX5_candidate_wsX5_candidate_r2 (gk_c mi_wsX5_candidate_wsX5_candidate_r1 (gk_c mi_wsX5_candidate_wsX5_candidate_r2 (gk_c mi_wsX5_candidate_wsX5_candidate_r1 (gk_c mi_wsX5_candidate_wsX5_candidate_r2 (gk_c mi_wsX5_candidate_wsX5_candidate_r3 (gk_c mi_wsX5_candidate_wsX50 gk_n)))))))) rfl (by decide +kernel)
set_option maxRecDepth 20000 in
theorem gX5_candidate_X5_sums : GoodIn wsX5_candidate (wsV RX5 171 RX5 yX5_sums wsX5_sums) := goodIn_app (goodIn_k _ [(wsX5_candidate_r1, [13, 14, 15, 7])] (gk_c mi_wsX5_candidate_wsX5_candidate_r1 gk_n) rfl (by decide +kernel)) ggX5_candidate_X5_sums
theorem mi_wsX5_candidate_wsX5_candidate_r4 : ∀ w ∈ wsX5_candidate_r4, w ∈ wsX5_candidate := fun _ h => (List.mem_cons_of_mem _ (List.mem_append_left _ (List.mem_append_right _ (List.mem_append_right _ (List.mem_append_right _ h)))))
set_option maxRecDepth 20000 in
theorem ggX5_candidate_X5_times : GoodIn wsX5_candidate wsX5_times := goodIn_k _ [(wsX5_candidate_r4, [0]), (wsX5_candidate_r2, [5]), (wsX50, [0, 1, 2, 3, 4, 5, 6, 7, 8, 9, 10, 11, 12, 13, 14, 15, 16, 17, 18, 19, 20, 21, 22, 23, 24, 25, 26, 27, 28, 29])] (gk_c mi_wsX5_candidate_wsX5_candidate_r4 (gk_c mi_wsX5_candidate_wsX5_candidate_r2 (gk_c mi_wsX5_candidate_wsX50 gk_n))) rfl (by decide +kernel)
set_option maxRecDepth 20000 in
theorem gX5_candidate_X5_times : GoodIn wsX5_candidate (wsV RX5 149 RX5 yX5_times wsX5_times) := goodIn_app (goodIn_k _ [(wsX5_candidate_r3, [21, 22, 23]), (wsX5_candidate_r1, [7])] (gk_c mi_wsX5_candidate_wsX5_candidate_r3 (gk_c mi_wsX5_candidate_wsX5_candidate_r1 gk_n)) rfl (by decide +kernel)) ggX5_candidate_X5_times
def dt_cX5_candidate_0 : List (Nat × Nat × Nat × Nat) := [(0, 42, 0, 0), (1, 4, 0, 0), (2, 181, 2, 77), (5, 42, 0, 0), (6, 27, 0, 0), (7, 28, 0, 0), (8, 182, 2, 142), (11, 153, 2, 13), (14, 21, 1, 4), (16, 3, 0, 0), (17, 5, 0, 0), (18, 184, 2, 80), (21, 154, 2, 5), (24, 3, 0, 0), (25, 172, 0, 0), (26, 42, 0, 0), (27, 27, 0, 0), (28, 28, 0, 0), (29, 182, 2, 171), (32, 29, 0, 0)]
theorem da_cX5_candidate_0 : fw dt_cX5_candidate_0 0 cX5_candidate.data.toList = true := by decide +kernel
theorem dX5_candidate_0 : decode cX5_candidate 0 = .ok (.aload_n 0, 1) := fo_42 (fw_get da_cX5_candidate_0 0 rfl)
theorem dX5_candidate_1 : decode cX5_candidate 1 = .ok (.iconst 1, 1) := fo_4 (fw_get da_cX5_candidate_0 1 rfl)
theorem dX5_candidate_2 : decode cX5_candidate 2 = .ok (.putfield 77, 3) := fo_181 (fw_get da_cX5_candidate_0 2 rfl)
theorem dX5_candidate_5 : decode cX5_candidate 5 = .ok (.aload_n 0, 1) := fo_42 (fw_get da_cX5_candidate_0 3 rfl)
theorem dX5_candidate_6 : decode cX5_candidate 6 = .ok (.iload_n 1, 1) := fo_27 (fw_get da_cX5_candidate_0 4 rfl)
theorem dX5_candidate_7 : decode cX5_candidate 7 = .ok (.iload_n 2, 1) := fo_28 (fw_get da_cX5_candidate_0 5 rfl)
theorem dX5_candidate_8 : decode cX5_candidate 8 = .ok (.invokevirtual 142, 3) := fo_182 (fw_get da_cX5_candidate_0 6 rfl)
theorem dX5_candidate_11 : decode cX5_candidate 11 = .ok (.ifCond .eq 13, 3) := fo_153 (fw_get da_cX5_candidate_0 7 rfl) (by decide +kernel)
theorem dX5_candidate_14 : decode cX5_candidate 14 = .ok (.iload 4, 2) := fo_21 (fw_get da_cX5_candidate_0 8 rfl)
theorem dX5_candidate_16 : decode cX5_candidate 16 = .ok (.iconst 0, 1) := fo_3 (fw_get da_cX5_candidate_0 9 rfl)
theorem dX5_candidate_17 : decode cX5_candidate 17 = .ok (.iconst 2, 1) := fo_5 (fw_get da_cX5_candidate_0 10 rfl)
theorem dX5_candidate_18 : decode cX5_candidate 18 = .ok (.invokestatic 80, 3) := fo_184 (fw_get da_cX5_candidate_0 11 rfl)
theorem dX5_candidate_21 : decode cX5_candidate 21 = .ok (.ifCond .ne 5, 3) := fo_154 (fw_get da_cX5_candidate_0 12 rfl) (by decide +kernel)
theorem dX5_candidate_24 : decode cX5_candidate 24 = .ok (.iconst 0, 1) := fo_3 (fw_get da_cX5_candidate_0 13 rfl)
theorem dX5_candidate_25 : decode cX5_candidate 25 = .ok (.ireturn, 1) := fo_172 (fw_get da_cX5_candidate_0 14 rfl)
theorem dX5_candidate_26 : decode cX5_candidate 26 = .ok (.aload_n 0, 1) := fo_42 (fw_get da_cX5_candidate_0 15 rfl)
theorem dX5_candidate_27 : decode cX5_candidate 27 = .ok (.iload_n 1, 1) := fo_27 (fw_get da_cX5_candidate_0 16 rfl)
theorem dX5_candidate_28 : decode cX5_candidate 28 = .ok (.iload_n 2, 1) := fo_28 (fw_get da_cX5_candidate_0 17 rfl)
theorem dX5_candidate_29 : decode cX5_candidate 29 = .ok (.invokevirtual 171, 3) := fo_182 (fw_get da_cX5_candidate_0 18 rfl)
theorem dX5_candidate_32 : decode cX5_candidate 32 = .ok (.iload_n 3, 1) := fo_29 (fw_get da_cX5_candidate_0 19 rfl)
def dt_cX5_candidate_1 : List (Nat × Nat × Nat × Nat) := [(33, 3, 0, 0), (34, 42, 0, 0), (35, 180, 2, 17), (38, 17, 2, 320), (41, 46, 0, 0), (42, 4, 0, 0), (43, 100, 0, 0), (44, 184, 2, 80), (47, 154, 2, 5), (50, 3, 0, 0), (51, 172, 0, 0), (52, 42, 0, 0), (53, 3, 0, 0), (54, 181, 2, 77), (57, 42, 0, 0), (58, 180, 2, 26), (61, 17, 2, 1920), (64, 29, 0, 0), (65, 96, 0, 0), (66, 46, 0, 0)]
theorem da_cX5_candidate_1 : fw dt_cX5_candidate_1 0 cX5_candidate.data.toList = true := by decide +kernel
theorem dX5_candidate_33 : decode cX5_candidate 33 = .ok (.iconst 0, 1) := fo_3 (fw_get da_cX5_candidate_1 0 rfl)
theorem dX5_candidate_34 : decode cX5_candidate 34 = .ok (.aload_n 0, 1) := fo_42 (fw_get da_cX5_candidate_1 1 rfl)
theorem dX5_candidate_35 : decode cX5_candidate 35 = .ok (.getfield 17, 3) := fo_180 (fw_get da_cX5_candidate_1 2 rfl)
theorem dX5_candidate_38 : decode cX5_candidate 38 = .ok (.sipush 320, 3) := fo_17 (fw_get da_cX5_candidate_1 3 rfl) (by decide +kernel)
theorem dX5_candidate_41 : decode cX5_candidate 41 = .ok (.iaload, 1) := fo_46 (fw_get da_cX5_candidate_1 4 rfl)
theorem dX5_candidate_42 : decode cX5_candidate 42 = .ok (.iconst 1, 1) := fo_4 (fw_get da_cX5_candidate_1 5 rfl)
theorem dX5_candidate_43 : decode cX5_candidate 43 = .ok (.isub, 1) := fo_100 (fw_get da_cX5_candidate_1 6 rfl)
theorem dX5_candidate_44 : decode cX5_candidate 44 = .ok (.invokestatic 80, 3) := fo_184 (fw_get da_cX5_candidate_1 7 rfl)
theorem dX5_candidate_47 : decode cX5_candidate 47 = .ok (.ifCond .ne 5, 3) := fo_154 (fw_get da_cX5_candidate_1 8 rfl) (by decide +kernel)
theorem dX5_candidate_50 : decode cX5_candidate 50 = .ok (.iconst 0, 1) := fo_3 (fw_get da_cX5_candidate_1 9 rfl)
theorem dX5_candidate_51 : decode cX5_candidate 51 = .ok (.ireturn, 1) := fo_172 (fw_get da_cX5_candidate_1 10 rfl)
theorem dX5_candidate_52 : decode cX5_candidate 52 = .ok (.aload_n 0, 1) := fo_42 (fw_get da_cX5_candidate_1 11 rfl)
theorem dX5_candidate_53 : decode cX5_candidate 53 = .ok (.iconst 0, 1) := fo_3 (fw_get da_cX5_candidate_1 12 rfl)
theorem dX5_candidate_54 : decode cX5_candidate 54 = .ok (.putfield 77, 3) := fo_181 (fw_get da_cX5_candidate_1 13 rfl)
theorem dX5_candidate_57 : decode cX5_candidate 57 = .ok (.aload_n 0, 1) := fo_42 (fw_get da_cX5_candidate_1 14 rfl)
theorem dX5_candidate_58 : decode cX5_candidate 58 = .ok (.getfield 26, 3) := fo_180 (fw_get da_cX5_candidate_1 15 rfl)
theorem dX5_candidate_61 : decode cX5_candidate 61 = .ok (.sipush 1920, 3) := fo_17 (fw_get da_cX5_candidate_1 16 rfl) (by decide +kernel)
theorem dX5_candidate_64 : decode cX5_candidate 64 = .ok (.iload_n 3, 1) := fo_29 (fw_get da_cX5_candidate_1 17 rfl)
theorem dX5_candidate_65 : decode cX5_candidate 65 = .ok (.iadd, 1) := fo_96 (fw_get da_cX5_candidate_1 18 rfl)
theorem dX5_candidate_66 : decode cX5_candidate 66 = .ok (.iaload, 1) := fo_46 (fw_get da_cX5_candidate_1 19 rfl)
def dt_cX5_candidate_2 : List (Nat × Nat × Nat × Nat) := [(67, 54, 1, 5), (69, 21, 1, 4), (71, 154, 2, 8), (74, 21, 1, 5), (76, 167, 2, 30), (79, 21, 1, 4), (81, 4, 0, 0), (82, 160, 2, 16), (85, 42, 0, 0), (86, 180, 2, 29), (89, 17, 2, 1920), (92, 29, 0, 0), (93, 96, 0, 0), (94, 46, 0, 0), (95, 167, 2, 11), (98, 42, 0, 0), (99, 21, 1, 5), (101, 27, 0, 0), (102, 28, 0, 0), (103, 182, 2, 149)]
theorem da_cX5_candidate_2 : fw dt_cX5_candidate_2 0 cX5_candidate.data.toList = true := by decide +kernel
theorem dX5_candidate_67 : decode cX5_candidate 67 = .ok (.istore 5, 2) := fo_54 (fw_get da_cX5_candidate_2 0 rfl)
theorem dX5_candidate_69 : decode cX5_candidate 69 = .ok (.iload 4, 2) := fo_21 (fw_get da_cX5_candidate_2 1 rfl)
theorem dX5_candidate_71 : decode cX5_candidate 71 = .ok (.ifCond .ne 8, 3) := fo_154 (fw_get da_cX5_candidate_2 2 rfl) (by decide +kernel)
theorem dX5_candidate_74 : decode cX5_candidate 74 = .ok (.iload 5, 2) := fo_21 (fw_get da_cX5_candidate_2 3 rfl)
theorem dX5_candidate_76 : decode cX5_candidate 76 = .ok (.goto 30, 3) := fo_167 (fw_get da_cX5_candidate_2 4 rfl) (by decide +kernel)
theorem dX5_candidate_79 : decode cX5_candidate 79 = .ok (.iload 4, 2) := fo_21 (fw_get da_cX5_candidate_2 5 rfl)
theorem dX5_candidate_81 : decode cX5_candidate 81 = .ok (.iconst 1, 1) := fo_4 (fw_get da_cX5_candidate_2 6 rfl)
theorem dX5_candidate_82 : decode cX5_candidate 82 = .ok (.if_icmp .ne 16, 3) := fo_160 (fw_get da_cX5_candidate_2 7 rfl) (by decide +kernel)
theorem dX5_candidate_85 : decode cX5_candidate 85 = .ok (.aload_n 0, 1) := fo_42 (fw_get da_cX5_candidate_2 8 rfl)
theorem dX5_candidate_86 : decode cX5_candidate 86 = .ok (.getfield 29, 3) := fo_180 (fw_get da_cX5_candidate_2 9 rfl)
theorem dX5_candidate_89 : decode cX5_candidate 89 = .ok (.sipush 1920, 3) := fo_17 (fw_get da_cX5_candidate_2 10 rfl) (by decide +kernel)
theorem dX5_candidate_92 : decode cX5_candidate 92 = .ok (.iload_n 3, 1) := fo_29 (fw_get da_cX5_candidate_2 11 rfl)
theorem dX5_candidate_93 : decode cX5_candidate 93 = .ok (.iadd, 1) := fo_96 (fw_get da_cX5_candidate_2 12 rfl)
theorem dX5_candidate_94 : decode cX5_candidate 94 = .ok (.iaload, 1) := fo_46 (fw_get da_cX5_candidate_2 13 rfl)
theorem dX5_candidate_95 : decode cX5_candidate 95 = .ok (.goto 11, 3) := fo_167 (fw_get da_cX5_candidate_2 14 rfl) (by decide +kernel)
theorem dX5_candidate_98 : decode cX5_candidate 98 = .ok (.aload_n 0, 1) := fo_42 (fw_get da_cX5_candidate_2 15 rfl)
theorem dX5_candidate_99 : decode cX5_candidate 99 = .ok (.iload 5, 2) := fo_21 (fw_get da_cX5_candidate_2 16 rfl)
theorem dX5_candidate_101 : decode cX5_candidate 101 = .ok (.iload_n 1, 1) := fo_27 (fw_get da_cX5_candidate_2 17 rfl)
theorem dX5_candidate_102 : decode cX5_candidate 102 = .ok (.iload_n 2, 1) := fo_28 (fw_get da_cX5_candidate_2 18 rfl)
theorem dX5_candidate_103 : decode cX5_candidate 103 = .ok (.invokevirtual 149, 3) := fo_182 (fw_get da_cX5_candidate_2 19 rfl)
def dt_cX5_candidate_3 : List (Nat × Nat × Nat × Nat) := [(106, 172, 0, 0)]
theorem da_cX5_candidate_3 : fw dt_cX5_candidate_3 0 cX5_candidate.data.toList = true := by decide +kernel
theorem dX5_candidate_106 : decode cX5_candidate 106 = .ok (.ireturn, 1) := fo_172 (fw_get da_cX5_candidate_3 0 rfl)
theorem mi_wsX5_lost_wsX5_lost_r1 : ∀ w ∈ wsX5_lost_r1, w ∈ wsX5_lost := fun _ h => (List.mem_cons_of_mem _ (List.mem_append_left _ (List.mem_append_left _ h)))
set_option maxRecDepth 20000 in
theorem ggX5_lost_X5_isValue : GoodIn wsX5_lost wsX5_isValue := goodIn_k _ [(wsX5_lost_r1, [4, 5, 6, 3, 7])] (gk_c mi_wsX5_lost_wsX5_lost_r1 gk_n) rfl (by decide +kernel)
set_option maxRecDepth 20000 in
theorem gX5_lost_X5_isValue : GoodIn wsX5_lost (va_wsS RX5 132 yX5_isValue wsX5_isValue) := goodIn_app (goodIn_k _ [(wsX5_lost_r1, [1, 2, 3])] (gk_c mi_wsX5_lost_wsX5_lost_r1 gk_n) rfl (by decide +kernel)) ggX5_lost_X5_isValue
theorem mi_wsX5_lost_wsX50 : ∀ w ∈ wsX50, w ∈ wsX5_lost := fun _ h => (List.mem_cons_of_mem _ (List.mem_append_right _ h))
set_option maxRecDepth 20000 in
theorem ggX5_lost_X5_isRange : GoodIn wsX5_lost wsX5_isRange := goodIn_k _ [(wsX5_lost_r1, [11, 12]), (wsX50, [0, 1, 2, 3, 4, 5, 6, 7, 8, 9, 10, 11, 12, 13, 14, 15, 16, 17, 18, 19, 20, 21, 22, 23, 24, 25, 26, 27, 28, 29])] (gk_c mi_wsX5_lost_wsX5_lost_r1 (gk_c mi_wsX5_lost_wsX50 gk_n)) rfl (by decide +kernel)
set_option maxRecDepth 20000 in
theorem gX5_lost_X5_isRange : GoodIn wsX5_lost (wsV RX5 142 RX5 yX5_isRange wsX5_isRange) := goodIn_app (goodIn_k _ [(wsX5_lost_r1, [8, 9, 10, 3])] (gk_c mi_wsX5_lost_wsX5_lost_r1 gk_n) rfl (by decide +kernel)) ggX5_lost_X5_isRange
theorem mi_wsX5_lost_wsX5_lost_r2 : ∀ w ∈ wsX5_lost_r2, w ∈ wsX5_lost := fun _ h => (List.mem_cons_of_mem _ (List.mem_append_left _ (List.mem_append_right _ (List.mem_append_left _ h))))
theorem mi_wsX5_lost_wsX5_lost_r3 : ∀ w ∈ wsX5_lost_r3, w ∈ wsX5_lost := fun _ h => (List.mem_cons_of_mem _ (List.mem_append_left _ (List.mem_append_right _ (List.mem_append_right _ (List.mem_append_left _ h)))))
set_option maxRecDepth 20000 in
theorem ggX5_lost_X5_sums : GoodIn wsX5_lost wsX5_sums := goodIn_k _ [(wsX5_lost_r1, [16, 17, 18, 19, 20, 3, 21, 22, 12, 23]), (wsX5_lost_r2, [0, 1, 2, 3, 4, 5, 6, 7, 8, 9, 10, 11, 12, 13, 14, 15, 16, 17, 18, 19, 20, 21, 22, 23]), (wsX5_lost_r3, [0, 1, 2, 3, 4, 5, 6, 7, 8, 9, 10, 11, 12, 13, 14, 15, 16, 17, 18, 19, 20, 21, 22, 23]), (wsX50, [0, 1, 2, 3, 4, 5, 6, 7, 8, 9, 10, 11, 12, 13, 14, 15, 16, 17, 18, 19, 20, 21, 22, 23, 24, 25, 26, 27, 28, 29])] (gk_c mi_wsX5_lost_wsX5_lost_r1 (gk_c mi_wsX5_lost_wsX5_lost_r2 (gk_c mi_wsX5_lost_wsX5_lost_r3 (gk_c mi_wsX5_lost_wsX50 gk_n)))) rfl (by decide +kernel)
set_option maxRecDepth 20000 in
theorem gX5_lost_X5_sums : GoodIn wsX5_lost (wsV RX5 171 RX5 yX5_sums wsX5_sums) := goodIn_app (goodIn_k _ [(wsX5_lost_r1, [13, 14, 15, 3])] (gk_c mi_wsX5_lost_wsX5_lost_r1 gk_n) rfl (by decide +kernel)) ggX5_lost_X5_sums
theorem mi_wsX5_lost_wsX5_lost_r4 : ∀ w ∈ wsX5_lost_r4, w ∈ wsX5_lost := fun _ h => (List.mem_cons_of_mem _ (List.mem_append_left _ (List.mem_append_right _ (List.mem_append_right _ (List.mem_append_right _ h)))))
set_option maxRecDepth 20000 in
theorem ggX5_lost_X5_times : GoodIn wsX5_lost wsX5_times := goodIn_k _ [(wsX5_lost_r4, [3]), (wsX5_lost_r2, [5]), (wsX50, [0, 1, 2, 3, 4, 5, 6, 7, 8, 9, 10, 11, 12, 13, 14, 15, 16, 17, 18, 19, 20, 21, 22, 23, 24, 25, 26, 27, 28, 29])] (gk_c mi_wsX5_lost_wsX5_lost_r4 (gk_c mi_wsX5_lost_wsX5_lost_r2 (gk_c mi_wsX5_lost_wsX50 gk_n))) rfl (by decide +kernel)
set_option maxRecDepth 20000 in
theorem gX5_lost_X5_times : GoodIn wsX5_lost (wsV RX5 149 RX5 yX5_times wsX5_times) := goodIn_app (goodIn_k _ [(wsX5_lost_r4, [0, 1, 2]), (wsX5_lost_r1, [3])] (gk_c mi_wsX5_lost_wsX5_lost_r4 (gk_c mi_wsX5_lost_wsX5_lost_r1 gk_n)) rfl (by decide +kernel)) ggX5_lost_X5_times
set_option maxRecDepth 20000 in
theorem ggX5_lost_X5_numberOf : GoodIn wsX5_lost wsX5_numberOf := goodIn_k _ [(wsX5_lost_r4, [7]), (wsX5_lost_r2, [10, 13, 14]), (wsX50, [0, 1, 2, 3, 4, 5, 6, 7, 8, 9, 10, 11, 12, 13, 14, 15, 16, 17, 18, 19, 20, 21, 22, 23, 24, 25, 26, 27, 28, 29])] (gk_c mi_wsX5_lost_wsX5_lost_r4 (gk_c mi_wsX5_lost_wsX5_lost_r2 (gk_c mi_wsX5_lost_wsX50 gk_n))) rfl (by decide +kernel)
set_option maxRecDepth 20000 in
theorem gX5_lost_X5_numberOf : GoodIn wsX5_lost (wsV RX5 165 RX5 yX5_numberOf wsX5_numberOf) := goodIn_app (goodIn_k _ [(wsX5_lost_r4, [4, 5, 6]), (wsX5_lost_r1, [3])] (gk_c mi_wsX5_lost_wsX5_lost_r4 (gk_c mi_wsX5_lost_wsX5_lost_r1 gk_n)) rfl (by decide +kernel)) ggX5_lost_X5_numberOf
def dt_cX5_lost_0 : List (Nat × Nat × Nat × Nat) := [(0, 42, 0, 0), (1, 3, 0, 0), (2, 181, 2, 77), (5, 27, 0, 0), (6, 184, 2, 132), (9, 153, 2, 12), (12, 42, 0, 0), (13, 28, 0, 0), (14, 29, 0, 0), (15, 182, 2, 142), (18, 154, 2, 5), (21, 2, 0, 0), (22, 172, 0, 0), (23, 42, 0, 0), (24, 28, 0, 0), (25, 29, 0, 0), (26, 182, 2, 171), (29, 42, 0, 0), (30, 27, 0, 0), (31, 28, 0, 0)]
theorem da_cX5_lost_0 : fw dt_cX5_lost_0 0 cX5_lost.data.toList = true := by decide +kernel
theorem dX5_lost_0 : decode cX5_lost 0 = .ok (.aload_n 0, 1) := fo_42 (fw_get da_cX5_lost_0 0 rfl)
theorem dX5_lost_1 : decode cX5_lost 1 = .ok (.iconst 0, 1) := fo_3 (fw_get da_cX5_lost_0 1 rfl)
theorem dX5_lost_2 : decode cX5_lost 2 = .ok (.putfield 77, 3) := fo_181 (fw_get da_cX5_lost_0 2 rfl)
theorem dX5_lost_5 : decode cX5_lost 5 = .ok (.iload_n 1, 1) := fo_27 (fw_get da_cX5_lost_0 3 rfl)
theorem dX5_lost_6 : decode cX5_lost 6 = .ok (.invokestatic 132, 3) := fo_184 (fw_get da_cX5_lost_0 4 rfl)
theorem dX5_lost_9 : decode cX5_lost 9 = .ok (.ifCond .eq 12, 3) := fo_153 (fw_get da_cX5_lost_0 5 rfl) (by decide +kernel)
theorem dX5_lost_12 : decode cX5_lost 12 = .ok (.aload_n 0, 1) := fo_42 (fw_get da_cX5_lost_0 6 rfl)
theorem dX5_lost_13 : decode cX5_lost 13 = .ok (.iload_n 2, 1) := fo_28 (fw_get da_cX5_lost_0 7 rfl)
theorem dX5_lost_14 : decode cX5_lost 14 = .ok (.iload_n 3, 1) := fo_29 (fw_get da_cX5_lost_0 8 rfl)
theorem dX5_lost_15 : decode cX5_lost 15 = .ok (.invokevirtual 142, 3) := fo_182 (fw_get da_cX5_lost_0 9 rfl)
theorem dX5_lost_18 : decode cX5_lost 18 = .ok (.ifCond .ne 5, 3) := fo_154 (fw_get da_cX5_lost_0 10 rfl) (by decide +kernel)
theorem dX5_lost_21 : decode cX5_lost 21 = .ok (.iconst (-1), 1) := fo_2 (fw_get da_cX5_lost_0 11 rfl)
theorem dX5_lost_22 : decode cX5_lost 22 = .ok (.ireturn, 1) := fo_172 (fw_get da_cX5_lost_0 12 rfl)
theorem dX5_lost_23 : decode cX5_lost 23 = .ok (.aload_n 0, 1) := fo_42 (fw_get da_cX5_lost_0 13 rfl)
theorem dX5_lost_24 : decode cX5_lost 24 = .ok (.iload_n 2, 1) := fo_28 (fw_get da_cX5_lost_0 14 rfl)
theorem dX5_lost_25 : decode cX5_lost 25 = .ok (.iload_n 3, 1) := fo_29 (fw_get da_cX5_lost_0 15 rfl)
theorem dX5_lost_26 : decode cX5_lost 26 = .ok (.invokevirtual 171, 3) := fo_182 (fw_get da_cX5_lost_0 16 rfl)
theorem dX5_lost_29 : decode cX5_lost 29 = .ok (.aload_n 0, 1) := fo_42 (fw_get da_cX5_lost_0 17 rfl)
theorem dX5_lost_30 : decode cX5_lost 30 = .ok (.iload_n 1, 1) := fo_27 (fw_get da_cX5_lost_0 18 rfl)
theorem dX5_lost_31 : decode cX5_lost 31 = .ok (.iload_n 2, 1) := fo_28 (fw_get da_cX5_lost_0 19 rfl)
def dt_cX5_lost_1 : List (Nat × Nat × Nat × Nat) := [(32, 29, 0, 0), (33, 182, 2, 149), (36, 42, 0, 0), (37, 17, 2, 320), (40, 27, 0, 0), (41, 182, 2, 165), (44, 100, 0, 0), (45, 172, 0, 0)]
theorem da_cX5_lost_1 : fw dt_cX5_lost_1 0 cX5_lost.data.toList = true := by decide +kernel
theorem dX5_lost_32 : decode cX5_lost 32 = .ok (.iload_n 3, 1) := fo_29 (fw_get da_cX5_lost_1 0 rfl)
theorem dX5_lost_33 : decode cX5_lost 33 = .ok (.invokevirtual 149, 3) := fo_182 (fw_get da_cX5_lost_1 1 rfl)
theorem dX5_lost_36 : decode cX5_lost 36 = .ok (.aload_n 0, 1) := fo_42 (fw_get da_cX5_lost_1 2 rfl)
theorem dX5_lost_37 : decode cX5_lost 37 = .ok (.sipush 320, 3) := fo_17 (fw_get da_cX5_lost_1 3 rfl) (by decide +kernel)
theorem dX5_lost_40 : decode cX5_lost 40 = .ok (.iload_n 1, 1) := fo_27 (fw_get da_cX5_lost_1 4 rfl)
theorem dX5_lost_41 : decode cX5_lost 41 = .ok (.invokevirtual 165, 3) := fo_182 (fw_get da_cX5_lost_1 5 rfl)
theorem dX5_lost_44 : decode cX5_lost 44 = .ok (.isub, 1) := fo_100 (fw_get da_cX5_lost_1 6 rfl)
theorem dX5_lost_45 : decode cX5_lost 45 = .ok (.ireturn, 1) := fo_172 (fw_get da_cX5_lost_1 7 rfl)
theorem mi_wsX5_surely_wsX5_surely_r1 : ∀ w ∈ wsX5_surely_r1, w ∈ wsX5_surely := fun _ h => (List.mem_cons_of_mem _ (List.mem_append_left _ (List.mem_append_left _ h)))
theorem mi_wsX5_surely_wsX50 : ∀ w ∈ wsX50, w ∈ wsX5_surely := fun _ h => (List.mem_cons_of_mem _ (List.mem_append_right _ h))
set_option maxRecDepth 20000 in
theorem ggX5_surely_X5_isRange : GoodIn wsX5_surely wsX5_isRange := goodIn_k _ [(wsX5_surely_r1, [10, 11]), (wsX50, [0, 1, 2, 3, 4, 5, 6, 7, 8, 9, 10, 11, 12, 13, 14, 15, 16, 17, 18, 19, 20, 21, 22, 23, 24, 25, 26, 27, 28, 29])] (gk_c mi_wsX5_surely_wsX5_surely_r1 (gk_c mi_wsX5_surely_wsX50 gk_n)) rfl (by decide +kernel)
set_option maxRecDepth 20000 in
theorem gX5_surely_X5_isRange : GoodIn wsX5_surely (wsV RX5 142 RX5 yX5_isRange wsX5_isRange) := goodIn_app (goodIn_k _ [(wsX5_surely_r1, [6, 7, 8, 9])] (gk_c mi_wsX5_surely_wsX5_surely_r1 gk_n) rfl (by decide +kernel)) ggX5_surely_X5_isRange
theorem mi_wsX5_surely_wsX5_surely_r2 : ∀ w ∈ wsX5_surely_r2, w ∈ wsX5_surely := fun _ h => (List.mem_cons_of_mem _ (List.mem_append_left _ (List.mem_append_right _ (List.mem_append_left _ h))))
theorem mi_wsX5_surely_wsX5_surely_r3 : ∀ w ∈ wsX5_surely_r3, w ∈ wsX5_surely := fun _ h => (List.mem_cons_of_mem _ (List.mem_append_left _ (List.mem_append_right _ (List.mem_append_right _ h))))
set_option maxRecDepth 20000 in
theorem ggX5_surely_X5_sums : GoodIn wsX5_surely wsX5_sums := goodIn_k _ [(wsX5_surely_r1, [15, 16, 17, 18, 19, 9, 20, 21, 11, 22, 23]), (wsX5_surely_r2, [0, 1, 2, 3, 4, 5, 6, 7, 8]), (wsX5_surely_r1, [2, 4]), (wsX5_surely_r2, [9]), (wsX5_surely_r1, [5, 3]), (wsX5_surely_r2, [10, 11, 12, 13, 14, 15, 16, 17, 18, 19, 20, 21, 22, 23]), (wsX5_surely_r3, [0, 1, 2, 3, 4, 5, 6, 7, 8, 9, 10, 11, 12, 13, 14, 15, 16, 17, 18]), (wsX50, [0, 1, 2, 3, 4, 5, 6, 7, 8, 9, 10, 11, 12, 13, 14, 15, 16, 17, 18, 19, 20, 21, 22, 23, 24, 25, 26, 27, 28, 29])] (gk_c mi_wsX5_surely_wsX5_surely_r1 (gk_c mi_wsX5_surely_wsX5_surely_r2 (gk_c mi_wsX5_surely_wsX5_surely_r1 (gk_c mi_wsX5_surely_wsX5_surely_r2 (gk_c mi_wsX5_surely_wsX5_surely_r1 (gk_c mi_wsX5_surely_wsX5_surely_r2 (gk_c mi_wsX5_surely_wsX5_surely_r3 (gk_c mi_wsX5_surely_wsX50 gk_n)))))))) rfl (by decide +kernel)
set_option maxRecDepth 20000 in
theorem gX5_surely_X5_sums : GoodIn wsX5_surely (wsV RX5 171 RX5 yX5_sums wsX5_sums) := goodIn_app (goodIn_k _ [(wsX5_surely_r1, [12, 13, 14, 9])] (gk_c mi_wsX5_surely_wsX5_surely_r1 gk_n) rfl (by decide +kernel)) ggX5_surely_X5_sums
def dt_cX5_surely_0 : List (Nat × Nat × Nat × Nat) := [(0, 42, 0, 0), (1, 3, 0, 0), (2, 181, 2, 77), (5, 42, 0, 0), (6, 27, 0, 0), (7, 28, 0, 0), (8, 182, 2, 142), (11, 154, 2, 6), (14, 18, 1, 148), (16, 172, 0, 0), (17, 42, 0, 0), (18, 27, 0, 0), (19, 28, 0, 0), (20, 182, 2, 171), (23, 42, 0, 0), (24, 180, 2, 17), (27, 17, 2, 320), (30, 46, 0, 0), (31, 154, 2, 6), (34, 18, 1, 148)]
theorem da_cX5_surely_0 : fw dt_cX5_surely_0 0 cX5_surely.data.toList = true := by decide +kernel
theorem dX5_surely_0 : decode cX5_surely 0 = .ok (.aload_n 0, 1) := fo_42 (fw_get da_cX5_surely_0 0 rfl)
theorem dX5_surely_1 : decode cX5_surely 1 = .ok (.iconst 0, 1) := fo_3 (fw_get da_cX5_surely_0 1 rfl)
theorem dX5_surely_2 : decode cX5_surely 2 = .ok (.putfield 77, 3) := fo_181 (fw_get da_cX5_surely_0 2 rfl)
theorem dX5_surely_5 : decode cX5_surely 5 = .ok (.aload_n 0, 1) := fo_42 (fw_get da_cX5_surely_0 3 rfl)
theorem dX5_surely_6 : decode cX5_surely 6 = .ok (.iload_n 1, 1) := fo_27 (fw_get da_cX5_surely_0 4 rfl)
theorem dX5_surely_7 : decode cX5_surely 7 = .ok (.iload_n 2, 1) := fo_28 (fw_get da_cX5_surely_0 5 rfl)
theorem dX5_surely_8 : decode cX5_surely 8 = .ok (.invokevirtual 142, 3) := fo_182 (fw_get da_cX5_surely_0 6 rfl)
theorem dX5_surely_11 : decode cX5_surely 11 = .ok (.ifCond .ne 6, 3) := fo_154 (fw_get da_cX5_surely_0 7 rfl) (by decide +kernel)
theorem dX5_surely_14 : decode cX5_surely 14 = .ok (.ldc 148, 2) := fo_18 (fw_get da_cX5_surely_0 8 rfl)
theorem dX5_surely_16 : decode cX5_surely 16 = .ok (.ireturn, 1) := fo_172 (fw_get da_cX5_surely_0 9 rfl)
theorem dX5_surely_17 : decode cX5_surely 17 = .ok (.aload_n 0, 1) := fo_42 (fw_get da_cX5_surely_0 10 rfl)
theorem dX5_surely_18 : decode cX5_surely 18 = .ok (.iload_n 1, 1) := fo_27 (fw_get da_cX5_surely_0 11 rfl)
theorem dX5_surely_19 : decode cX5_surely 19 = .ok (.iload_n 2, 1) := fo_28 (fw_get da_cX5_surely_0 12 rfl)
theorem dX5_surely_20 : decode cX5_surely 20 = .ok (.invokevirtual 171, 3) := fo_182 (fw_get da_cX5_surely_0 13 rfl)
theorem dX5_surely_23 : decode cX5_surely 23 = .ok (.aload_n 0, 1) := fo_42 (fw_get da_cX5_surely_0 14 rfl)
theorem dX5_surely_24 : decode cX5_surely 24 = .ok (.getfield 17, 3) := fo_180 (fw_get da_cX5_surely_0 15 rfl)
theorem dX5_surely_27 : decode cX5_surely 27 = .ok (.sipush 320, 3) := fo_17 (fw_get da_cX5_surely_0 16 rfl) (by decide +kernel)
theorem dX5_surely_30 : decode cX5_surely 30 = .ok (.iaload, 1) := fo_46 (fw_get da_cX5_surely_0 17 rfl)
theorem dX5_surely_31 : decode cX5_surely 31 = .ok (.ifCond .ne 6, 3) := fo_154 (fw_get da_cX5_surely_0 18 rfl) (by decide +kernel)
theorem dX5_surely_34 : decode cX5_surely 34 = .ok (.ldc 148, 2) := fo_18 (fw_get da_cX5_surely_0 19 rfl)
def dt_cX5_surely_1 : List (Nat × Nat × Nat × Nat) := [(36, 172, 0, 0), (37, 42, 0, 0), (38, 180, 2, 29), (41, 17, 2, 1920), (44, 46, 0, 0), (45, 62, 0, 0), (46, 42, 0, 0), (47, 180, 2, 17), (50, 17, 2, 320), (53, 46, 0, 0), (54, 4, 0, 0), (55, 164, 2, 14), (58, 42, 0, 0), (59, 180, 2, 29), (62, 17, 2, 1921), (65, 46, 0, 0), (66, 167, 2, 4), (69, 3, 0, 0), (70, 54, 1, 4), (72, 29, 0, 0)]
theorem da_cX5_surely_1 : fw dt_cX5_surely_1 0 cX5_surely.data.toList = true := by decide +kernel
theorem dX5_surely_36 : decode cX5_surely 36 = .ok (.ireturn, 1) := fo_172 (fw_get da_cX5_surely_1 0 rfl)
theorem dX5_surely_37 : decode cX5_surely 37 = .ok (.aload_n 0, 1) := fo_42 (fw_get da_cX5_surely_1 1 rfl)
theorem dX5_surely_38 : decode cX5_surely 38 = .ok (.getfield 29, 3) := fo_180 (fw_get da_cX5_surely_1 2 rfl)
theorem dX5_surely_41 : decode cX5_surely 41 = .ok (.sipush 1920, 3) := fo_17 (fw_get da_cX5_surely_1 3 rfl) (by decide +kernel)
theorem dX5_surely_44 : decode cX5_surely 44 = .ok (.iaload, 1) := fo_46 (fw_get da_cX5_surely_1 4 rfl)
theorem dX5_surely_45 : decode cX5_surely 45 = .ok (.istore_n 3, 1) := fo_62 (fw_get da_cX5_surely_1 5 rfl)
theorem dX5_surely_46 : decode cX5_surely 46 = .ok (.aload_n 0, 1) := fo_42 (fw_get da_cX5_surely_1 6 rfl)
theorem dX5_surely_47 : decode cX5_surely 47 = .ok (.getfield 17, 3) := fo_180 (fw_get da_cX5_surely_1 7 rfl)
theorem dX5_surely_50 : decode cX5_surely 50 = .ok (.sipush 320, 3) := fo_17 (fw_get da_cX5_surely_1 8 rfl) (by decide +kernel)
theorem dX5_surely_53 : decode cX5_surely 53 = .ok (.iaload, 1) := fo_46 (fw_get da_cX5_surely_1 9 rfl)
theorem dX5_surely_54 : decode cX5_surely 54 = .ok (.iconst 1, 1) := fo_4 (fw_get da_cX5_surely_1 10 rfl)
theorem dX5_surely_55 : decode cX5_surely 55 = .ok (.if_icmp .le 14, 3) := fo_164 (fw_get da_cX5_surely_1 11 rfl) (by decide +kernel)
theorem dX5_surely_58 : decode cX5_surely 58 = .ok (.aload_n 0, 1) := fo_42 (fw_get da_cX5_surely_1 12 rfl)
theorem dX5_surely_59 : decode cX5_surely 59 = .ok (.getfield 29, 3) := fo_180 (fw_get da_cX5_surely_1 13 rfl)
theorem dX5_surely_62 : decode cX5_surely 62 = .ok (.sipush 1921, 3) := fo_17 (fw_get da_cX5_surely_1 14 rfl) (by decide +kernel)
theorem dX5_surely_65 : decode cX5_surely 65 = .ok (.iaload, 1) := fo_46 (fw_get da_cX5_surely_1 15 rfl)
theorem dX5_surely_66 : decode cX5_surely 66 = .ok (.goto 4, 3) := fo_167 (fw_get da_cX5_surely_1 16 rfl) (by decide +kernel)
theorem dX5_surely_69 : decode cX5_surely 69 = .ok (.iconst 0, 1) := fo_3 (fw_get da_cX5_surely_1 17 rfl)
theorem dX5_surely_70 : decode cX5_surely 70 = .ok (.istore 4, 2) := fo_54 (fw_get da_cX5_surely_1 18 rfl)
theorem dX5_surely_72 : decode cX5_surely 72 = .ok (.iload_n 3, 1) := fo_29 (fw_get da_cX5_surely_1 19 rfl)
def dt_cX5_surely_2 : List (Nat × Nat × Nat × Nat) := [(73, 21, 1, 4), (75, 42, 0, 0), (76, 180, 2, 20), (79, 17, 2, 320), (82, 46, 0, 0), (83, 96, 0, 0), (84, 164, 2, 14), (87, 42, 0, 0), (88, 180, 2, 26), (91, 17, 2, 1920), (94, 46, 0, 0), (95, 167, 2, 5), (98, 18, 1, 148), (100, 172, 0, 0)]
theorem da_cX5_surely_2 : fw dt_cX5_surely_2 0 cX5_surely.data.toList = true := by decide +kernel
theorem dX5_surely_73 : decode cX5_surely 73 = .ok (.iload 4, 2) := fo_21 (fw_get da_cX5_surely_2 0 rfl)
theorem dX5_surely_75 : decode cX5_surely 75 = .ok (.aload_n 0, 1) := fo_42 (fw_get da_cX5_surely_2 1 rfl)
theorem dX5_surely_76 : decode cX5_surely 76 = .ok (.getfield 20, 3) := fo_180 (fw_get da_cX5_surely_2 2 rfl)
theorem dX5_surely_79 : decode cX5_surely 79 = .ok (.sipush 320, 3) := fo_17 (fw_get da_cX5_surely_2 3 rfl) (by decide +kernel)
theorem dX5_surely_82 : decode cX5_surely 82 = .ok (.iaload, 1) := fo_46 (fw_get da_cX5_surely_2 4 rfl)
theorem dX5_surely_83 : decode cX5_surely 83 = .ok (.iadd, 1) := fo_96 (fw_get da_cX5_surely_2 5 rfl)
theorem dX5_surely_84 : decode cX5_surely 84 = .ok (.if_icmp .le 14, 3) := fo_164 (fw_get da_cX5_surely_2 6 rfl) (by decide +kernel)
theorem dX5_surely_87 : decode cX5_surely 87 = .ok (.aload_n 0, 1) := fo_42 (fw_get da_cX5_surely_2 7 rfl)
theorem dX5_surely_88 : decode cX5_surely 88 = .ok (.getfield 26, 3) := fo_180 (fw_get da_cX5_surely_2 8 rfl)
theorem dX5_surely_91 : decode cX5_surely 91 = .ok (.sipush 1920, 3) := fo_17 (fw_get da_cX5_surely_2 9 rfl) (by decide +kernel)
theorem dX5_surely_94 : decode cX5_surely 94 = .ok (.iaload, 1) := fo_46 (fw_get da_cX5_surely_2 10 rfl)
theorem dX5_surely_95 : decode cX5_surely 95 = .ok (.goto 5, 3) := fo_167 (fw_get da_cX5_surely_2 11 rfl) (by decide +kernel)
theorem dX5_surely_98 : decode cX5_surely 98 = .ok (.ldc 148, 2) := fo_18 (fw_get da_cX5_surely_2 12 rfl)
theorem dX5_surely_100 : decode cX5_surely 100 = .ok (.ireturn, 1) := fo_172 (fw_get da_cX5_surely_2 13 rfl)
theorem mi_wsX5_failed_wsX5_failed_r1 : ∀ w ∈ wsX5_failed_r1, w ∈ wsX5_failed := fun _ h => (List.mem_cons_of_mem _ (List.mem_append_left _ (List.mem_append_left _ h)))
theorem mi_wsX5_failed_wsX50 : ∀ w ∈ wsX50, w ∈ wsX5_failed := fun _ h => (List.mem_cons_of_mem _ (List.mem_append_right _ h))
set_option maxRecDepth 20000 in
theorem ggX5_failed_X5_isRange : GoodIn wsX5_failed wsX5_isRange := goodIn_k _ [(wsX5_failed_r1, [7, 8]), (wsX50, [0, 1, 2, 3, 4, 5, 6, 7, 8, 9, 10, 11, 12, 13, 14, 15, 16, 17, 18, 19, 20, 21, 22, 23, 24, 25, 26, 27, 28, 29])] (gk_c mi_wsX5_failed_wsX5_failed_r1 (gk_c mi_wsX5_failed_wsX50 gk_n)) rfl (by decide +kernel)
set_option maxRecDepth 20000 in
theorem gX5_failed_X5_isRange : GoodIn wsX5_failed (wsV RX5 142 RX5 yX5_isRange wsX5_isRange) := goodIn_app (goodIn_k _ [(wsX5_failed_r1, [3, 4, 5, 6])] (gk_c mi_wsX5_failed_wsX5_failed_r1 gk_n) rfl (by decide +kernel)) ggX5_failed_X5_isRange
set_option maxRecDepth 20000 in
theorem ggX5_failed_X5_isShare : GoodIn wsX5_failed wsX5_isShare := goodIn_k _ [(wsX5_failed_r1, [11, 12, 13, 6, 14])] (gk_c mi_wsX5_failed_wsX5_failed_r1 gk_n) rfl (by decide +kernel)
set_option maxRecDepth 20000 in
theorem gX5_failed_X5_isShare : GoodIn wsX5_failed (va_wsS RX5 184 yX5_isShare wsX5_isShare) := goodIn_app (goodIn_k _ [(wsX5_failed_r1, [9, 10, 6])] (gk_c mi_wsX5_failed_wsX5_failed_r1 gk_n) rfl (by decide +kernel)) ggX5_failed_X5_isShare
set_option maxRecDepth 20000 in
theorem ggX5_failed_X5_isEnough : GoodIn wsX5_failed wsX5_isEnough := goodIn_k _ [(wsX5_failed_r1, [18, 19]), (wsX50, [0, 1, 2, 3, 4, 5, 6, 7, 8, 9, 10, 11, 12, 13, 14, 15, 16, 17, 18, 19, 20, 21, 22, 23, 24, 25, 26, 27, 28, 29])] (gk_c mi_wsX5_failed_wsX5_failed_r1 (gk_c mi_wsX5_failed_wsX50 gk_n)) rfl (by decide +kernel)
set_option maxRecDepth 20000 in
theorem gX5_failed_X5_isEnough : GoodIn wsX5_failed (wsV RX5 187 RX5 yX5_isEnough wsX5_isEnough) := goodIn_app (goodIn_k _ [(wsX5_failed_r1, [15, 16, 17, 6])] (gk_c mi_wsX5_failed_wsX5_failed_r1 gk_n) rfl (by decide +kernel)) ggX5_failed_X5_isEnough
theorem mi_wsX5_failed_wsX5_failed_r2 : ∀ w ∈ wsX5_failed_r2, w ∈ wsX5_failed := fun _ h => (List.mem_cons_of_mem _ (List.mem_append_left _ (List.mem_append_right _ (List.mem_append_left _ h))))
theorem mi_wsX5_failed_wsX5_failed_r3 : ∀ w ∈ wsX5_failed_r3, w ∈ wsX5_failed := fun _ h => (List.mem_cons_of_mem _ (List.mem_append_left _ (List.mem_append_right _ (List.mem_append_right _ (List.mem_append_left _ h)))))
theorem mi_wsX5_failed_wsX5_failed_r4 : ∀ w ∈ wsX5_failed_r4, w ∈ wsX5_failed := fun _ h => (List.mem_cons_of_mem _ (List.mem_append_left _ (List.mem_append_right _ (List.mem_append_right _ (List.mem_append_right _ h)))))
set_option maxRecDepth 20000 in
theorem ggX5_failed_X5_sums : GoodIn wsX5_failed wsX5_sums := goodIn_k _ [(wsX5_failed_r1, [23, 19]), (wsX5_failed_r2, [0, 1, 2]), (wsX5_failed_r1, [6]), (wsX5_failed_r2, [3, 4]), (wsX5_failed_r1, [8]), (wsX5_failed_r2, [5, 6, 7, 8, 9, 10, 11, 12, 13, 14, 15]), (wsX5_failed_r1, [1]), (wsX5_failed_r2, [16, 17]), (wsX5_failed_r1, [2]), (wsX5_failed_r2, [18, 19, 20, 21, 22, 23]), (wsX5_failed_r3, [0, 1, 2, 3, 4, 5, 6, 7, 8, 9, 10, 11, 12, 13, 14, 15, 16, 17, 18, 19, 20, 21, 22, 23]), (wsX5_failed_r4, [0, 1, 2, 3]), (wsX50, [0, 1, 2, 3, 4, 5, 6, 7, 8, 9, 10, 11, 12, 13, 14, 15, 16, 17, 18, 19, 20, 21, 22, 23, 24, 25, 26, 27, 28, 29])] (gk_c mi_wsX5_failed_wsX5_failed_r1 (gk_c mi_wsX5_failed_wsX5_failed_r2 (gk_c mi_wsX5_failed_wsX5_failed_r1 (gk_c mi_wsX5_failed_wsX5_failed_r2 (gk_c mi_wsX5_failed_wsX5_failed_r1 (gk_c mi_wsX5_failed_wsX5_failed_r2 (gk_c mi_wsX5_failed_wsX5_failed_r1 (gk_c mi_wsX5_failed_wsX5_failed_r2 (gk_c mi_wsX5_failed_wsX5_failed_r1 (gk_c mi_wsX5_failed_wsX5_failed_r2 (gk_c mi_wsX5_failed_wsX5_failed_r3 (gk_c mi_wsX5_failed_wsX5_failed_r4 (gk_c mi_wsX5_failed_wsX50 gk_n))))))))))))) rfl (by decide +kernel)
set_option maxRecDepth 20000 in
theorem gX5_failed_X5_sums : GoodIn wsX5_failed (wsV RX5 171 RX5 yX5_sums wsX5_sums) := goodIn_app (goodIn_k _ [(wsX5_failed_r1, [20, 21, 22, 6])] (gk_c mi_wsX5_failed_wsX5_failed_r1 gk_n) rfl (by decide +kernel)) ggX5_failed_X5_sums
set_option maxRecDepth 20000 in
theorem ggX5_failed_X5_times : GoodIn wsX5_failed wsX5_times := goodIn_k _ [(wsX5_failed_r4, [7]), (wsX5_failed_r2, [11]), (wsX50, [0, 1, 2, 3, 4, 5, 6, 7, 8, 9, 10, 11, 12, 13, 14, 15, 16, 17, 18, 19, 20, 21, 22, 23, 24, 25, 26, 27, 28, 29])] (gk_c mi_wsX5_failed_wsX5_failed_r4 (gk_c mi_wsX5_failed_wsX5_failed_r2 (gk_c mi_wsX5_failed_wsX50 gk_n))) rfl (by decide +kernel)
set_option maxRecDepth 20000 in
theorem gX5_failed_X5_times : GoodIn wsX5_failed (wsV RX5 149 RX5 yX5_times wsX5_times) := goodIn_app (goodIn_k _ [(wsX5_failed_r4, [4, 5, 6]), (wsX5_failed_r1, [6])] (gk_c mi_wsX5_failed_wsX5_failed_r4 (gk_c mi_wsX5_failed_wsX5_failed_r1 gk_n)) rfl (by decide +kernel)) ggX5_failed_X5_times
def dt_cX5_failed_0 : List (Nat × Nat × Nat × Nat) := [(0, 42, 0, 0), (1, 3, 0, 0), (2, 181, 2, 77), (5, 42, 0, 0), (6, 27, 0, 0), (7, 28, 0, 0), (8, 182, 2, 142), (11, 153, 2, 12), (14, 29, 0, 0), (15, 21, 1, 4), (17, 184, 2, 184), (20, 154, 2, 5), (23, 2, 0, 0), (24, 172, 0, 0), (25, 42, 0, 0), (26, 29, 0, 0), (27, 21, 1, 4), (29, 182, 2, 187), (32, 154, 2, 6), (35, 16, 1, 254)]
theorem da_cX5_failed_0 : fw dt_cX5_failed_0 0 cX5_failed.data.toList = true := by decide +kernel
theorem dX5_failed_0 : decode cX5_failed 0 = .ok (.aload_n 0, 1) := fo_42 (fw_get da_cX5_failed_0 0 rfl)
theorem dX5_failed_1 : decode cX5_failed 1 = .ok (.iconst 0, 1) := fo_3 (fw_get da_cX5_failed_0 1 rfl)
theorem dX5_failed_2 : decode cX5_failed 2 = .ok (.putfield 77, 3) := fo_181 (fw_get da_cX5_failed_0 2 rfl)
theorem dX5_failed_5 : decode cX5_failed 5 = .ok (.aload_n 0, 1) := fo_42 (fw_get da_cX5_failed_0 3 rfl)
theorem dX5_failed_6 : decode cX5_failed 6 = .ok (.iload_n 1, 1) := fo_27 (fw_get da_cX5_failed_0 4 rfl)
theorem dX5_failed_7 : decode cX5_failed 7 = .ok (.iload_n 2, 1) := fo_28 (fw_get da_cX5_failed_0 5 rfl)
theorem dX5_failed_8 : decode cX5_failed 8 = .ok (.invokevirtual 142, 3) := fo_182 (fw_get da_cX5_failed_0 6 rfl)
theorem dX5_failed_11 : decode cX5_failed 11 = .ok (.ifCond .eq 12, 3) := fo_153 (fw_get da_cX5_failed_0 7 rfl) (by decide +kernel)
theorem dX5_failed_14 : decode cX5_failed 14 = .ok (.iload_n 3, 1) := fo_29 (fw_get da_cX5_failed_0 8 rfl)
theorem dX5_failed_15 : decode cX5_failed 15 = .ok (.iload 4, 2) := fo_21 (fw_get da_cX5_failed_0 9 rfl)
theorem dX5_failed_17 : decode cX5_failed 17 = .ok (.invokestatic 184, 3) := fo_184 (fw_get da_cX5_failed_0 10 rfl)
theorem dX5_failed_20 : decode cX5_failed 20 = .ok (.ifCond .ne 5, 3) := fo_154 (fw_get da_cX5_failed_0 11 rfl) (by decide +kernel)
theorem dX5_failed_23 : decode cX5_failed 23 = .ok (.iconst (-1), 1) := fo_2 (fw_get da_cX5_failed_0 12 rfl)
theorem dX5_failed_24 : decode cX5_failed 24 = .ok (.ireturn, 1) := fo_172 (fw_get da_cX5_failed_0 13 rfl)
theorem dX5_failed_25 : decode cX5_failed 25 = .ok (.aload_n 0, 1) := fo_42 (fw_get da_cX5_failed_0 14 rfl)
theorem dX5_failed_26 : decode cX5_failed 26 = .ok (.iload_n 3, 1) := fo_29 (fw_get da_cX5_failed_0 15 rfl)
theorem dX5_failed_27 : decode cX5_failed 27 = .ok (.iload 4, 2) := fo_21 (fw_get da_cX5_failed_0 16 rfl)
theorem dX5_failed_29 : decode cX5_failed 29 = .ok (.invokevirtual 187, 3) := fo_182 (fw_get da_cX5_failed_0 17 rfl)
theorem dX5_failed_32 : decode cX5_failed 32 = .ok (.ifCond .ne 6, 3) := fo_154 (fw_get da_cX5_failed_0 18 rfl) (by decide +kernel)
theorem dX5_failed_35 : decode cX5_failed 35 = .ok (.bipush (-2), 2) := fo_16 (fw_get da_cX5_failed_0 19 rfl) (by decide +kernel)
def dt_cX5_failed_1 : List (Nat × Nat × Nat × Nat) := [(37, 172, 0, 0), (38, 42, 0, 0), (39, 27, 0, 0), (40, 28, 0, 0), (41, 182, 2, 171), (44, 3, 0, 0), (45, 54, 1, 5), (47, 3, 0, 0), (48, 54, 1, 6), (50, 21, 1, 6), (52, 42, 0, 0), (53, 180, 2, 17), (56, 17, 2, 320), (59, 46, 0, 0), (60, 162, 2, 40), (63, 42, 0, 0), (64, 42, 0, 0), (65, 180, 2, 26), (68, 17, 2, 1920), (71, 21, 1, 6)]
theorem da_cX5_failed_1 : fw dt_cX5_failed_1 0 cX5_failed.data.toList = true := by decide +kernel
theorem dX5_failed_37 : decode cX5_failed 37 = .ok (.ireturn, 1) := fo_172 (fw_get da_cX5_failed_1 0 rfl)
theorem dX5_failed_38 : decode cX5_failed 38 = .ok (.aload_n 0, 1) := fo_42 (fw_get da_cX5_failed_1 1 rfl)
theorem dX5_failed_39 : decode cX5_failed 39 = .ok (.iload_n 1, 1) := fo_27 (fw_get da_cX5_failed_1 2 rfl)
theorem dX5_failed_40 : decode cX5_failed 40 = .ok (.iload_n 2, 1) := fo_28 (fw_get da_cX5_failed_1 3 rfl)
theorem dX5_failed_41 : decode cX5_failed 41 = .ok (.invokevirtual 171, 3) := fo_182 (fw_get da_cX5_failed_1 4 rfl)
theorem dX5_failed_44 : decode cX5_failed 44 = .ok (.iconst 0, 1) := fo_3 (fw_get da_cX5_failed_1 5 rfl)
theorem dX5_failed_45 : decode cX5_failed 45 = .ok (.istore 5, 2) := fo_54 (fw_get da_cX5_failed_1 6 rfl)
theorem dX5_failed_47 : decode cX5_failed 47 = .ok (.iconst 0, 1) := fo_3 (fw_get da_cX5_failed_1 7 rfl)
theorem dX5_failed_48 : decode cX5_failed 48 = .ok (.istore 6, 2) := fo_54 (fw_get da_cX5_failed_1 8 rfl)
theorem dX5_failed_50 : decode cX5_failed 50 = .ok (.iload 6, 2) := fo_21 (fw_get da_cX5_failed_1 9 rfl)
theorem dX5_failed_52 : decode cX5_failed 52 = .ok (.aload_n 0, 1) := fo_42 (fw_get da_cX5_failed_1 10 rfl)
theorem dX5_failed_53 : decode cX5_failed 53 = .ok (.getfield 17, 3) := fo_180 (fw_get da_cX5_failed_1 11 rfl)
theorem dX5_failed_56 : decode cX5_failed 56 = .ok (.sipush 320, 3) := fo_17 (fw_get da_cX5_failed_1 12 rfl) (by decide +kernel)
theorem dX5_failed_59 : decode cX5_failed 59 = .ok (.iaload, 1) := fo_46 (fw_get da_cX5_failed_1 13 rfl)
theorem dX5_failed_60 : decode cX5_failed 60 = .ok (.if_icmp .ge 40, 3) := fo_162 (fw_get da_cX5_failed_1 14 rfl) (by decide +kernel)
theorem dX5_failed_63 : decode cX5_failed 63 = .ok (.aload_n 0, 1) := fo_42 (fw_get da_cX5_failed_1 15 rfl)
theorem dX5_failed_64 : decode cX5_failed 64 = .ok (.aload_n 0, 1) := fo_42 (fw_get da_cX5_failed_1 16 rfl)
theorem dX5_failed_65 : decode cX5_failed 65 = .ok (.getfield 26, 3) := fo_180 (fw_get da_cX5_failed_1 17 rfl)
theorem dX5_failed_68 : decode cX5_failed 68 = .ok (.sipush 1920, 3) := fo_17 (fw_get da_cX5_failed_1 18 rfl) (by decide +kernel)
theorem dX5_failed_71 : decode cX5_failed 71 = .ok (.iload 6, 2) := fo_21 (fw_get da_cX5_failed_1 19 rfl)
def dt_cX5_failed_2 : List (Nat × Nat × Nat × Nat) := [(73, 96, 0, 0), (74, 46, 0, 0), (75, 27, 0, 0), (76, 28, 0, 0), (77, 182, 2, 149), (80, 21, 1, 4), (82, 104, 0, 0), (83, 29, 0, 0), (84, 28, 0, 0), (85, 27, 0, 0), (86, 100, 0, 0), (87, 104, 0, 0), (88, 163, 2, 6), (91, 132, 2, 1281), (94, 132, 2, 1537), (97, 167, 2, 65489), (100, 21, 1, 5), (102, 172, 0, 0)]
theorem da_cX5_failed_2 : fw dt_cX5_failed_2 0 cX5_failed.data.toList = true := by decide +kernel
theorem dX5_failed_73 : decode cX5_failed 73 = .ok (.iadd, 1) := fo_96 (fw_get da_cX5_failed_2 0 rfl)
theorem dX5_failed_74 : decode cX5_failed 74 = .ok (.iaload, 1) := fo_46 (fw_get da_cX5_failed_2 1 rfl)
theorem dX5_failed_75 : decode cX5_failed 75 = .ok (.iload_n 1, 1) := fo_27 (fw_get da_cX5_failed_2 2 rfl)
theorem dX5_failed_76 : decode cX5_failed 76 = .ok (.iload_n 2, 1) := fo_28 (fw_get da_cX5_failed_2 3 rfl)
theorem dX5_failed_77 : decode cX5_failed 77 = .ok (.invokevirtual 149, 3) := fo_182 (fw_get da_cX5_failed_2 4 rfl)
theorem dX5_failed_80 : decode cX5_failed 80 = .ok (.iload 4, 2) := fo_21 (fw_get da_cX5_failed_2 5 rfl)
theorem dX5_failed_82 : decode cX5_failed 82 = .ok (.imul, 1) := fo_104 (fw_get da_cX5_failed_2 6 rfl)
theorem dX5_failed_83 : decode cX5_failed 83 = .ok (.iload_n 3, 1) := fo_29 (fw_get da_cX5_failed_2 7 rfl)
theorem dX5_failed_84 : decode cX5_failed 84 = .ok (.iload_n 2, 1) := fo_28 (fw_get da_cX5_failed_2 8 rfl)
theorem dX5_failed_85 : decode cX5_failed 85 = .ok (.iload_n 1, 1) := fo_27 (fw_get da_cX5_failed_2 9 rfl)
theorem dX5_failed_86 : decode cX5_failed 86 = .ok (.isub, 1) := fo_100 (fw_get da_cX5_failed_2 10 rfl)
theorem dX5_failed_87 : decode cX5_failed 87 = .ok (.imul, 1) := fo_104 (fw_get da_cX5_failed_2 11 rfl)
theorem dX5_failed_88 : decode cX5_failed 88 = .ok (.if_icmp .gt 6, 3) := fo_163 (fw_get da_cX5_failed_2 12 rfl) (by decide +kernel)
theorem dX5_failed_91 : decode cX5_failed 91 = .ok (.iinc 5 1, 3) := fo_132 (fw_get da_cX5_failed_2 13 rfl) rfl (by decide +kernel)
theorem dX5_failed_94 : decode cX5_failed 94 = .ok (.iinc 6 1, 3) := fo_132 (fw_get da_cX5_failed_2 14 rfl) rfl (by decide +kernel)
theorem dX5_failed_97 : decode cX5_failed 97 = .ok (.goto (-47), 3) := fo_167 (fw_get da_cX5_failed_2 15 rfl) (by decide +kernel)
theorem dX5_failed_100 : decode cX5_failed 100 = .ok (.iload 5, 2) := fo_21 (fw_get da_cX5_failed_2 16 rfl)
theorem dX5_failed_102 : decode cX5_failed 102 = .ok (.ireturn, 1) := fo_172 (fw_get da_cX5_failed_2 17 rfl)

