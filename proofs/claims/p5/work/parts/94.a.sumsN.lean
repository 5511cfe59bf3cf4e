abbrev cX5_parts : ByteArray := prog_7_method_45_code
def yX5_parts : MethodName := ⟨RX5, "parts", "(II)I"⟩
abbrev cX5_part : ByteArray := prog_7_method_46_code
def yX5_part : MethodName := ⟨RX5, "part", "(IIII)I"⟩
abbrev cX5_sums : ByteArray := prog_7_method_47_code
def yX5_sums : MethodName := ⟨RX5, "sums", "(II)V"⟩
abbrev cX5_summary : ByteArray := prog_7_method_49_code
def yX5_summary : MethodName := ⟨RX5, "summary", "(III)I"⟩
abbrev cX5_candidate : ByteArray := prog_7_method_50_code
def yX5_candidate : MethodName := ⟨RX5, "candidate", "(IIII)I"⟩
abbrev cX5_lost : ByteArray := prog_7_method_51_code
def yX5_lost : MethodName := ⟨RX5, "lost", "(III)I"⟩
abbrev cX5_surely : ByteArray := prog_7_method_52_code
def yX5_surely : MethodName := ⟨RX5, "surely", "(II)I"⟩
abbrev cX5_failed : ByteArray := prog_7_method_58_code
def yX5_failed : MethodName := ⟨RX5, "failed", "(IIII)I"⟩
def wsX5_parts_r1 : List Cond := [Cond.fieldLink RX5 77 "MajorityIndexModel" "thrown" "I", Cond.fieldLink RX5 13 "MajorityIndexModel" "slots" "I", Cond.fieldLink RX5 115 "MajorityIndexModel" "partMany" "I", Cond.methodLink RX5 142 yX5_isRange, Cond.instanceMethod yX5_isRange, Cond.selects RX5 yX5_isRange yX5_isRange, Cond.initialized RX5, Cond.code yX5_isRange cX5_isRange 3 (some .boolean), Cond.fieldLink RX5 84 "MajorityIndexModel" "n" "I", Cond.methodLink RX5 124 yX5_laysAll, Cond.instanceMethod yX5_laysAll, Cond.selects RX5 yX5_laysAll yX5_laysAll, Cond.code yX5_laysAll cX5_laysAll 2 none, Cond.fieldLink RX5 101 "MajorityIndexModel" "nodes" "I", Cond.methodLink RX5 107 yX5_lays, Cond.instanceMethod yX5_lays, Cond.selects RX5 yX5_lays yX5_lays, Cond.code yX5_lays cX5_lays 8 (some .int), Cond.fieldLink RX5 38 "MajorityIndexModel" "nodeL" "[I", Cond.fieldLink RX5 41 "MajorityIndexModel" "nodeR" "[I", Cond.fieldLink RX5 7 "MajorityIndexModel" "row" "[I", Cond.methodLink RX5 104 yX5_one, Cond.instanceMethod yX5_one, Cond.selects RX5 yX5_one yX5_one]
def wsX5_parts_r2 : List Cond := [Cond.code yX5_one cX5_one 3 none, Cond.fieldLink RX5 17 "MajorityIndexModel" "many" "[I", Cond.fieldLink RX5 20 "MajorityIndexModel" "loss" "[I", Cond.fieldLink RX5 23 "MajorityIndexModel" "less" "[I", Cond.fieldLink RX5 26 "MajorityIndexModel" "voteValue" "[I", Cond.fieldLink RX5 29 "MajorityIndexModel" "voteNumber" "[I", Cond.methodLink RX5 111 yX5_together, Cond.instanceMethod yX5_together, Cond.selects RX5 yX5_together yX5_together, Cond.code yX5_together cX5_together 9 none, Cond.fieldLink RX5 87 "MajorityIndexModel" "allMany" "I", Cond.fieldLink RX5 35 "MajorityIndexModel" "allNumber" "[I", Cond.fieldLink RX5 32 "MajorityIndexModel" "allValue" "[I", Cond.methodLink RX5 94 yX5_adds, Cond.instanceMethod yX5_adds, Cond.selects RX5 yX5_adds yX5_adds, Cond.code yX5_adds cX5_adds 4 none, Cond.methodLink RX5 98 yX5_sorts, Cond.instanceMethod yX5_sorts, Cond.selects RX5 yX5_sorts yX5_sorts, Cond.code yX5_sorts cX5_sorts 4 none, Cond.methodLink RX5 90 yX5_isAhead, Cond.instanceMethod yX5_isAhead, Cond.selects RX5 yX5_isAhead yX5_isAhead]
def wsX5_parts_r3 : List Cond := [Cond.code yX5_isAhead cX5_isAhead 3 (some .boolean), Cond.methodLink RX5 118 yX5_laysParts, Cond.instanceMethod yX5_laysParts, Cond.selects RX5 yX5_laysParts yX5_laysParts, Cond.code yX5_laysParts cX5_laysParts 5 none, Cond.fieldLink RX5 44 "MajorityIndexModel" "part" "[I"]
def wsX5_parts : List Cond := .code yX5_parts cX5_parts 3 (some .int) :: ((wsX5_parts_r1 ++ (wsX5_parts_r2 ++ wsX5_parts_r3)) ++ wsX50)
def wsX5_part_r1 : List Cond := [Cond.fieldLink RX5 77 "MajorityIndexModel" "thrown" "I", Cond.fieldLink RX5 13 "MajorityIndexModel" "slots" "I", Cond.fieldLink RX5 115 "MajorityIndexModel" "partMany" "I", Cond.fieldLink RX5 38 "MajorityIndexModel" "nodeL" "[I", Cond.fieldLink RX5 44 "MajorityIndexModel" "part" "[I", Cond.fieldLink RX5 41 "MajorityIndexModel" "nodeR" "[I", Cond.methodLink RX5 142 yX5_isRange, Cond.instanceMethod yX5_isRange, Cond.selects RX5 yX5_isRange yX5_isRange, Cond.initialized RX5, Cond.code yX5_isRange cX5_isRange 3 (some .boolean), Cond.fieldLink RX5 84 "MajorityIndexModel" "n" "I", Cond.methodLink RX5 80 yX5_within, Cond.static yX5_within, Cond.code yX5_within cX5_within 3 (some .boolean), Cond.methodLink RX5 124 yX5_laysAll, Cond.instanceMethod yX5_laysAll, Cond.selects RX5 yX5_laysAll yX5_laysAll, Cond.code yX5_laysAll cX5_laysAll 2 none, Cond.fieldLink RX5 101 "MajorityIndexModel" "nodes" "I", Cond.methodLink RX5 107 yX5_lays, Cond.instanceMethod yX5_lays, Cond.selects RX5 yX5_lays yX5_lays, Cond.code yX5_lays cX5_lays 8 (some .int)]
def wsX5_part_r2 : List Cond := [Cond.fieldLink RX5 7 "MajorityIndexModel" "row" "[I", Cond.methodLink RX5 104 yX5_one, Cond.instanceMethod yX5_one, Cond.selects RX5 yX5_one yX5_one, Cond.code yX5_one cX5_one 3 none, Cond.fieldLink RX5 17 "MajorityIndexModel" "many" "[I", Cond.fieldLink RX5 20 "MajorityIndexModel" "loss" "[I", Cond.fieldLink RX5 23 "MajorityIndexModel" "less" "[I", Cond.fieldLink RX5 26 "MajorityIndexModel" "voteValue" "[I", Cond.fieldLink RX5 29 "MajorityIndexModel" "voteNumber" "[I", Cond.methodLink RX5 111 yX5_together, Cond.instanceMethod yX5_together, Cond.selects RX5 yX5_together yX5_together, Cond.code yX5_together cX5_together 9 none, Cond.fieldLink RX5 87 "MajorityIndexModel" "allMany" "I", Cond.fieldLink RX5 35 "MajorityIndexModel" "allNumber" "[I", Cond.fieldLink RX5 32 "MajorityIndexModel" "allValue" "[I", Cond.methodLink RX5 94 yX5_adds, Cond.instanceMethod yX5_adds, Cond.selects RX5 yX5_adds yX5_adds, Cond.code yX5_adds cX5_adds 4 none, Cond.methodLink RX5 98 yX5_sorts, Cond.instanceMethod yX5_sorts, Cond.selects RX5 yX5_sorts yX5_sorts]
def wsX5_part_r3 : List Cond := [Cond.code yX5_sorts cX5_sorts 4 none, Cond.methodLink RX5 90 yX5_isAhead, Cond.instanceMethod yX5_isAhead, Cond.selects RX5 yX5_isAhead yX5_isAhead, Cond.code yX5_isAhead cX5_isAhead 3 (some .boolean), Cond.methodLink RX5 118 yX5_laysParts, Cond.instanceMethod yX5_laysParts, Cond.selects RX5 yX5_laysParts yX5_laysParts, Cond.code yX5_laysParts cX5_laysParts 5 none]
def wsX5_part : List Cond := .code yX5_part cX5_part 5 (some .int) :: ((wsX5_part_r1 ++ (wsX5_part_r2 ++ wsX5_part_r3)) ++ wsX50)
def wsX5_sums_r1 : List Cond := [Cond.fieldLink RX5 13 "MajorityIndexModel" "slots" "I", Cond.methodLink RX5 124 yX5_laysAll, Cond.instanceMethod yX5_laysAll, Cond.selects RX5 yX5_laysAll yX5_laysAll, Cond.initialized RX5, Cond.code yX5_laysAll cX5_laysAll 2 none, Cond.fieldLink RX5 101 "MajorityIndexModel" "nodes" "I", Cond.fieldLink RX5 84 "MajorityIndexModel" "n" "I", Cond.methodLink RX5 107 yX5_lays, Cond.instanceMethod yX5_lays, Cond.selects RX5 yX5_lays yX5_lays, Cond.code yX5_lays cX5_lays 8 (some .int), Cond.fieldLink RX5 38 "MajorityIndexModel" "nodeL" "[I", Cond.fieldLink RX5 41 "MajorityIndexModel" "nodeR" "[I", Cond.fieldLink RX5 7 "MajorityIndexModel" "row" "[I", Cond.methodLink RX5 104 yX5_one, Cond.instanceMethod yX5_one, Cond.selects RX5 yX5_one yX5_one, Cond.code yX5_one cX5_one 3 none, Cond.fieldLink RX5 17 "MajorityIndexModel" "many" "[I", Cond.fieldLink RX5 20 "MajorityIndexModel" "loss" "[I", Cond.fieldLink RX5 23 "MajorityIndexModel" "less" "[I", Cond.fieldLink RX5 26 "MajorityIndexModel" "voteValue" "[I", Cond.fieldLink RX5 29 "MajorityIndexModel" "voteNumber" "[I"]
def wsX5_sums_r2 : List Cond := [Cond.methodLink RX5 111 yX5_together, Cond.instanceMethod yX5_together, Cond.selects RX5 yX5_together yX5_together, Cond.code yX5_together cX5_together 9 none, Cond.fieldLink RX5 87 "MajorityIndexModel" "allMany" "I", Cond.fieldLink RX5 35 "MajorityIndexModel" "allNumber" "[I", Cond.fieldLink RX5 32 "MajorityIndexModel" "allValue" "[I", Cond.methodLink RX5 94 yX5_adds, Cond.instanceMethod yX5_adds, Cond.selects RX5 yX5_adds yX5_adds, Cond.code yX5_adds cX5_adds 4 none, Cond.methodLink RX5 98 yX5_sorts, Cond.instanceMethod yX5_sorts, Cond.selects RX5 yX5_sorts yX5_sorts, Cond.code yX5_sorts cX5_sorts 4 none, Cond.methodLink RX5 90 yX5_isAhead, Cond.instanceMethod yX5_isAhead, Cond.selects RX5 yX5_isAhead yX5_isAhead, Cond.code yX5_isAhead cX5_isAhead 3 (some .boolean), Cond.methodLink RX5 168 yX5_folds, Cond.instanceMethod yX5_folds, Cond.selects RX5 yX5_folds yX5_folds, Cond.code yX5_folds cX5_folds 6 none, Cond.fieldLink RX5 44 "MajorityIndexModel" "part" "[I"]
def wsX5_sums_r3 : List Cond := [Cond.fieldLink RX5 115 "MajorityIndexModel" "partMany" "I", Cond.methodLink RX5 118 yX5_laysParts, Cond.instanceMethod yX5_laysParts, Cond.selects RX5 yX5_laysParts yX5_laysParts, Cond.code yX5_laysParts cX5_laysParts 5 none, Cond.methodLink RX5 121 yX5_copies, Cond.instanceMethod yX5_copies, Cond.selects RX5 yX5_copies yX5_copies, Cond.code yX5_copies cX5_copies 4 none]
def wsX5_sums : List Cond := .code yX5_sums cX5_sums 3 none :: ((wsX5_sums_r1 ++ (wsX5_sums_r2 ++ wsX5_sums_r3)) ++ wsX50)
def wsX5_summary_r1 : List Cond := [Cond.fieldLink RX5 77 "MajorityIndexModel" "thrown" "I", Cond.fieldLink RX5 17 "MajorityIndexModel" "many" "[I", Cond.fieldLink RX5 20 "MajorityIndexModel" "loss" "[I", Cond.methodLink RX5 142 yX5_isRange, Cond.instanceMethod yX5_isRange, Cond.selects RX5 yX5_isRange yX5_isRange, Cond.initialized RX5, Cond.code yX5_isRange cX5_isRange 3 (some .boolean), Cond.fieldLink RX5 84 "MajorityIndexModel" "n" "I", Cond.methodLink RX5 80 yX5_within, Cond.static yX5_within, Cond.code yX5_within cX5_within 3 (some .boolean), Cond.methodLink RX5 171 yX5_sums, Cond.instanceMethod yX5_sums, Cond.selects RX5 yX5_sums yX5_sums, Cond.code yX5_sums cX5_sums 3 none, Cond.fieldLink RX5 13 "MajorityIndexModel" "slots" "I", Cond.methodLink RX5 124 yX5_laysAll, Cond.instanceMethod yX5_laysAll, Cond.selects RX5 yX5_laysAll yX5_laysAll, Cond.code yX5_laysAll cX5_laysAll 2 none, Cond.fieldLink RX5 101 "MajorityIndexModel" "nodes" "I", Cond.methodLink RX5 107 yX5_lays, Cond.instanceMethod yX5_lays]
def wsX5_summary_r2 : List Cond := [Cond.selects RX5 yX5_lays yX5_lays, Cond.code yX5_lays cX5_lays 8 (some .int), Cond.fieldLink RX5 38 "MajorityIndexModel" "nodeL" "[I", Cond.fieldLink RX5 41 "MajorityIndexModel" "nodeR" "[I", Cond.fieldLink RX5 7 "MajorityIndexModel" "row" "[I", Cond.methodLink RX5 104 yX5_one, Cond.instanceMethod yX5_one, Cond.selects RX5 yX5_one yX5_one, Cond.code yX5_one cX5_one 3 none, Cond.fieldLink RX5 23 "MajorityIndexModel" "less" "[I", Cond.fieldLink RX5 26 "MajorityIndexModel" "voteValue" "[I", Cond.fieldLink RX5 29 "MajorityIndexModel" "voteNumber" "[I", Cond.methodLink RX5 111 yX5_together, Cond.instanceMethod yX5_together, Cond.selects RX5 yX5_together yX5_together, Cond.code yX5_together cX5_together 9 none, Cond.fieldLink RX5 87 "MajorityIndexModel" "allMany" "I", Cond.fieldLink RX5 35 "MajorityIndexModel" "allNumber" "[I", Cond.fieldLink RX5 32 "MajorityIndexModel" "allValue" "[I", Cond.methodLink RX5 94 yX5_adds, Cond.instanceMethod yX5_adds, Cond.selects RX5 yX5_adds yX5_adds, Cond.code yX5_adds cX5_adds 4 none, Cond.methodLink RX5 98 yX5_sorts]
def wsX5_summary_r3 : List Cond := [Cond.instanceMethod yX5_sorts, Cond.selects RX5 yX5_sorts yX5_sorts, Cond.code yX5_sorts cX5_sorts 4 none, Cond.methodLink RX5 90 yX5_isAhead, Cond.instanceMethod yX5_isAhead, Cond.selects RX5 yX5_isAhead yX5_isAhead, Cond.code yX5_isAhead cX5_isAhead 3 (some .boolean), Cond.methodLink RX5 168 yX5_folds, Cond.instanceMethod yX5_folds, Cond.selects RX5 yX5_folds yX5_folds, Cond.code yX5_folds cX5_folds 6 none, Cond.fieldLink RX5 44 "MajorityIndexModel" "part" "[I", Cond.fieldLink RX5 115 "MajorityIndexModel" "partMany" "I", Cond.methodLink RX5 118 yX5_laysParts, Cond.instanceMethod yX5_laysParts, Cond.selects RX5 yX5_laysParts yX5_laysParts, Cond.code yX5_laysParts cX5_laysParts 5 none, Cond.methodLink RX5 121 yX5_copies, Cond.instanceMethod yX5_copies, Cond.selects RX5 yX5_copies yX5_copies, Cond.code yX5_copies cX5_copies 4 none, Cond.methodLink RX5 174 yX5_numbersOf, Cond.instanceMethod yX5_numbersOf, Cond.selects RX5 yX5_numbersOf yX5_numbersOf]
def wsX5_summary_r4 : List Cond := [Cond.code yX5_numbersOf cX5_numbersOf 4 (some .int)]
def wsX5_summary : List Cond := .code yX5_summary cX5_summary 4 (some .int) :: ((wsX5_summary_r1 ++ (wsX5_summary_r2 ++ (wsX5_summary_r3 ++ wsX5_summary_r4))) ++ wsX50)
def wsX5_candidate_r1 : List Cond := [Cond.fieldLink RX5 77 "MajorityIndexModel" "thrown" "I", Cond.fieldLink RX5 17 "MajorityIndexModel" "many" "[I", Cond.fieldLink RX5 26 "MajorityIndexModel" "voteValue" "[I", Cond.fieldLink RX5 29 "MajorityIndexModel" "voteNumber" "[I", Cond.methodLink RX5 142 yX5_isRange, Cond.instanceMethod yX5_isRange, Cond.selects RX5 yX5_isRange yX5_isRange, Cond.initialized RX5, Cond.code yX5_isRange cX5_isRange 3 (some .boolean), Cond.fieldLink RX5 84 "MajorityIndexModel" "n" "I", Cond.methodLink RX5 80 yX5_within, Cond.static yX5_within, Cond.code yX5_within cX5_within 3 (some .boolean), Cond.methodLink RX5 171 yX5_sums, Cond.instanceMethod yX5_sums, Cond.selects RX5 yX5_sums yX5_sums, Cond.code yX5_sums cX5_sums 3 none, Cond.fieldLink RX5 13 "MajorityIndexModel" "slots" "I", Cond.methodLink RX5 124 yX5_laysAll, Cond.instanceMethod yX5_laysAll, Cond.selects RX5 yX5_laysAll yX5_laysAll, Cond.code yX5_laysAll cX5_laysAll 2 none, Cond.fieldLink RX5 101 "MajorityIndexModel" "nodes" "I", Cond.methodLink RX5 107 yX5_lays]
def wsX5_candidate_r2 : List Cond := [Cond.instanceMethod yX5_lays, Cond.selects RX5 yX5_lays yX5_lays, Cond.code yX5_lays cX5_lays 8 (some .int), Cond.fieldLink RX5 38 "MajorityIndexModel" "nodeL" "[I", Cond.fieldLink RX5 41 "MajorityIndexModel" "nodeR" "[I", Cond.fieldLink RX5 7 "MajorityIndexModel" "row" "[I", Cond.methodLink RX5 104 yX5_one, Cond.instanceMethod yX5_one, Cond.selects RX5 yX5_one yX5_one, Cond.code yX5_one cX5_one 3 none, Cond.fieldLink RX5 20 "MajorityIndexModel" "loss" "[I", Cond.fieldLink RX5 23 "MajorityIndexModel" "less" "[I", Cond.methodLink RX5 111 yX5_together, Cond.instanceMethod yX5_together, Cond.selects RX5 yX5_together yX5_together, Cond.code yX5_together cX5_together 9 none, Cond.fieldLink RX5 87 "MajorityIndexModel" "allMany" "I", Cond.fieldLink RX5 35 "MajorityIndexModel" "allNumber" "[I", Cond.fieldLink RX5 32 "MajorityIndexModel" "allValue" "[I", Cond.methodLink RX5 94 yX5_adds, Cond.instanceMethod yX5_adds, Cond.selects RX5 yX5_adds yX5_adds, Cond.code yX5_adds cX5_adds 4 none, Cond.methodLink RX5 98 yX5_sorts]
def wsX5_candidate_r3 : List Cond := [Cond.instanceMethod yX5_sorts, Cond.selects RX5 yX5_sorts yX5_sorts, Cond.code yX5_sorts cX5_sorts 4 none, Cond.methodLink RX5 90 yX5_isAhead, Cond.instanceMethod yX5_isAhead, Cond.selects RX5 yX5_isAhead yX5_isAhead, Cond.code yX5_isAhead cX5_isAhead 3 (some .boolean), Cond.methodLink RX5 168 yX5_folds, Cond.instanceMethod yX5_folds, Cond.selects RX5 yX5_folds yX5_folds, Cond.code yX5_folds cX5_folds 6 none, Cond.fieldLink RX5 44 "MajorityIndexModel" "part" "[I", Cond.fieldLink RX5 115 "MajorityIndexModel" "partMany" "I", Cond.methodLink RX5 118 yX5_laysParts, Cond.instanceMethod yX5_laysParts, Cond.selects RX5 yX5_laysParts yX5_laysParts, Cond.code yX5_laysParts cX5_laysParts 5 none, Cond.methodLink RX5 121 yX5_copies, Cond.instanceMethod yX5_copies, Cond.selects RX5 yX5_copies yX5_copies, Cond.code yX5_copies cX5_copies 4 none, Cond.methodLink RX5 149 yX5_times, Cond.instanceMethod yX5_times, Cond.selects RX5 yX5_times yX5_times]
def wsX5_candidate_r4 : List Cond := [Cond.code yX5_times cX5_times 6 (some .int)]
def wsX5_candidate : List Cond := .code yX5_candidate cX5_candidate 6 (some .int) :: ((wsX5_candidate_r1 ++ (wsX5_candidate_r2 ++ (wsX5_candidate_r3 ++ wsX5_candidate_r4))) ++ wsX50)
def wsX5_lost_r1 : List Cond := [Cond.fieldLink RX5 77 "MajorityIndexModel" "thrown" "I", Cond.methodLink RX5 132 yX5_isValue, Cond.static yX5_isValue, Cond.initialized RX5, Cond.code yX5_isValue cX5_isValue 1 (some .boolean), Cond.methodLink RX5 80 yX5_within, Cond.static yX5_within, Cond.code yX5_within cX5_within 3 (some .boolean), Cond.methodLink RX5 142 yX5_isRange, Cond.instanceMethod yX5_isRange, Cond.selects RX5 yX5_isRange yX5_isRange, Cond.code yX5_isRange cX5_isRange 3 (some .boolean), Cond.fieldLink RX5 84 "MajorityIndexModel" "n" "I", Cond.methodLink RX5 171 yX5_sums, Cond.instanceMethod yX5_sums, Cond.selects RX5 yX5_sums yX5_sums, Cond.code yX5_sums cX5_sums 3 none, Cond.fieldLink RX5 13 "MajorityIndexModel" "slots" "I", Cond.methodLink RX5 124 yX5_laysAll, Cond.instanceMethod yX5_laysAll, Cond.selects RX5 yX5_laysAll yX5_laysAll, Cond.code yX5_laysAll cX5_laysAll 2 none, Cond.fieldLink RX5 101 "MajorityIndexModel" "nodes" "I", Cond.methodLink RX5 107 yX5_lays]
def wsX5_lost_r2 : List Cond := [Cond.instanceMethod yX5_lays, Cond.selects RX5 yX5_lays yX5_lays, Cond.code yX5_lays cX5_lays 8 (some .int), Cond.fieldLink RX5 38 "MajorityIndexModel" "nodeL" "[I", Cond.fieldLink RX5 41 "MajorityIndexModel" "nodeR" "[I", Cond.fieldLink RX5 7 "MajorityIndexModel" "row" "[I", Cond.methodLink RX5 104 yX5_one, Cond.instanceMethod yX5_one, Cond.selects RX5 yX5_one yX5_one, Cond.code yX5_one cX5_one 3 none, Cond.fieldLink RX5 17 "MajorityIndexModel" "many" "[I", Cond.fieldLink RX5 20 "MajorityIndexModel" "loss" "[I", Cond.fieldLink RX5 23 "MajorityIndexModel" "less" "[I", Cond.fieldLink RX5 26 "MajorityIndexModel" "voteValue" "[I", Cond.fieldLink RX5 29 "MajorityIndexModel" "voteNumber" "[I", Cond.methodLink RX5 111 yX5_together, Cond.instanceMethod yX5_together, Cond.selects RX5 yX5_together yX5_together, Cond.code yX5_together cX5_together 9 none, Cond.fieldLink RX5 87 "MajorityIndexModel" "allMany" "I", Cond.fieldLink RX5 35 "MajorityIndexModel" "allNumber" "[I", Cond.fieldLink RX5 32 "MajorityIndexModel" "allValue" "[I", Cond.methodLink RX5 94 yX5_adds, Cond.instanceMethod yX5_adds]
def wsX5_lost_r3 : List Cond := [Cond.selects RX5 yX5_adds yX5_adds, Cond.code yX5_adds cX5_adds 4 none, Cond.methodLink RX5 98 yX5_sorts, Cond.instanceMethod yX5_sorts, Cond.selects RX5 yX5_sorts yX5_sorts, Cond.code yX5_sorts cX5_sorts 4 none, Cond.methodLink RX5 90 yX5_isAhead, Cond.instanceMethod yX5_isAhead, Cond.selects RX5 yX5_isAhead yX5_isAhead, Cond.code yX5_isAhead cX5_isAhead 3 (some .boolean), Cond.methodLink RX5 168 yX5_folds, Cond.instanceMethod yX5_folds, Cond.selects RX5 yX5_folds yX5_folds, Cond.code yX5_folds cX5_folds 6 none, Cond.fieldLink RX5 44 "MajorityIndexModel" "part" "[I", Cond.fieldLink RX5 115 "MajorityIndexModel" "partMany" "I", Cond.methodLink RX5 118 yX5_laysParts, Cond.instanceMethod yX5_laysParts, Cond.selects RX5 yX5_laysParts yX5_laysParts, Cond.code yX5_laysParts cX5_laysParts 5 none, Cond.methodLink RX5 121 yX5_copies, Cond.instanceMethod yX5_copies, Cond.selects RX5 yX5_copies yX5_copies, Cond.code yX5_copies cX5_copies 4 none]
def wsX5_lost_r4 : List Cond := [Cond.methodLink RX5 149 yX5_times, Cond.instanceMethod yX5_times, Cond.selects RX5 yX5_times yX5_times, Cond.code yX5_times cX5_times 6 (some .int), Cond.methodLink RX5 165 yX5_numberOf, Cond.instanceMethod yX5_numberOf, Cond.selects RX5 yX5_numberOf yX5_numberOf, Cond.code yX5_numberOf cX5_numberOf 4 (some .int)]
def wsX5_lost : List Cond := .code yX5_lost cX5_lost 4 (some .int) :: ((wsX5_lost_r1 ++ (wsX5_lost_r2 ++ (wsX5_lost_r3 ++ wsX5_lost_r4))) ++ wsX50)
def wsX5_surely_r1 : List Cond := [Cond.fieldLink RX5 77 "MajorityIndexModel" "thrown" "I", Cond.constant RX5 148 (-40000), Cond.fieldLink RX5 17 "MajorityIndexModel" "many" "[I", Cond.fieldLink RX5 29 "MajorityIndexModel" "voteNumber" "[I", Cond.fieldLink RX5 20 "MajorityIndexModel" "loss" "[I", Cond.fieldLink RX5 26 "MajorityIndexModel" "voteValue" "[I", Cond.methodLink RX5 142 yX5_isRange, Cond.instanceMethod yX5_isRange, Cond.selects RX5 yX5_isRange yX5_isRange, Cond.initialized RX5, Cond.code yX5_isRange cX5_isRange 3 (some .boolean), Cond.fieldLink RX5 84 "MajorityIndexModel" "n" "I", Cond.methodLink RX5 171 yX5_sums, Cond.instanceMethod yX5_sums, Cond.selects RX5 yX5_sums yX5_sums, Cond.code yX5_sums cX5_sums 3 none, Cond.fieldLink RX5 13 "MajorityIndexModel" "slots" "I", Cond.methodLink RX5 124 yX5_laysAll, Cond.instanceMethod yX5_laysAll, Cond.selects RX5 yX5_laysAll yX5_laysAll, Cond.code yX5_laysAll cX5_laysAll 2 none, Cond.fieldLink RX5 101 "MajorityIndexModel" "nodes" "I", Cond.methodLink RX5 107 yX5_lays, Cond.instanceMethod yX5_lays]
def wsX5_surely_r2 : List Cond := [Cond.selects RX5 yX5_lays yX5_lays, Cond.code yX5_lays cX5_lays 8 (some .int), Cond.fieldLink RX5 38 "MajorityIndexModel" "nodeL" "[I", Cond.fieldLink RX5 41 "MajorityIndexModel" "nodeR" "[I", Cond.fieldLink RX5 7 "MajorityIndexModel" "row" "[I", Cond.methodLink RX5 104 yX5_one, Cond.instanceMethod yX5_one, Cond.selects RX5 yX5_one yX5_one, Cond.code yX5_one cX5_one 3 none, Cond.fieldLink RX5 23 "MajorityIndexModel" "less" "[I", Cond.methodLink RX5 111 yX5_together, Cond.instanceMethod yX5_together, Cond.selects RX5 yX5_together yX5_together, Cond.code yX5_together cX5_together 9 none, Cond.fieldLink RX5 87 "MajorityIndexModel" "allMany" "I", Cond.fieldLink RX5 35 "MajorityIndexModel" "allNumber" "[I", Cond.fieldLink RX5 32 "MajorityIndexModel" "allValue" "[I", Cond.methodLink RX5 94 yX5_adds, Cond.instanceMethod yX5_adds, Cond.selects RX5 yX5_adds yX5_adds, Cond.code yX5_adds cX5_adds 4 none, Cond.methodLink RX5 98 yX5_sorts, Cond.instanceMethod yX5_sorts, Cond.selects RX5 yX5_sorts yX5_sorts]
def wsX5_surely_r3 : List Cond := [Cond.code yX5_sorts cX5_sorts 4 none, Cond.methodLink RX5 90 yX5_isAhead, Cond.instanceMethod yX5_isAhead, Cond.selects RX5 yX5_isAhead yX5_isAhead, Cond.code yX5_isAhead cX5_isAhead 3 (some .boolean), Cond.methodLink RX5 168 yX5_folds, Cond.instanceMethod yX5_folds, Cond.selects RX5 yX5_folds yX5_folds, Cond.code yX5_folds cX5_folds 6 none, Cond.fieldLink RX5 44 "MajorityIndexModel" "part" "[I", Cond.fieldLink RX5 115 "MajorityIndexModel" "partMany" "I", Cond.methodLink RX5 118 yX5_laysParts, Cond.instanceMethod yX5_laysParts, Cond.selects RX5 yX5_laysParts yX5_laysParts, Cond.code yX5_laysParts cX5_laysParts 5 none, Cond.methodLink RX5 121 yX5_copies, Cond.instanceMethod yX5_copies, Cond.selects RX5 yX5_copies yX5_copies, Cond.code yX5_copies cX5_copies 4 none]
def wsX5_surely : List Cond := .code yX5_surely cX5_surely 5 (some .int) :: ((wsX5_surely_r1 ++ (wsX5_surely_r2 ++ wsX5_surely_r3)) ++ wsX50)
def wsX5_failed_r1 : List Cond := [Cond.fieldLink RX5 77 "MajorityIndexModel" "thrown" "I", Cond.fieldLink RX5 17 "MajorityIndexModel" "many" "[I", Cond.fieldLink RX5 26 "MajorityIndexModel" "voteValue" "[I", Cond.methodLink RX5 142 yX5_isRange, Cond.instanceMethod yX5_isRange, Cond.selects RX5 yX5_isRange yX5_isRange, Cond.initialized RX5, Cond.code yX5_isRange cX5_isRange 3 (some .boolean), Cond.fieldLink RX5 84 "MajorityIndexModel" "n" "I", Cond.methodLink RX5 184 yX5_isShare, Cond.static yX5_isShare, Cond.code yX5_isShare cX5_isShare 2 (some .boolean), Cond.methodLink RX5 80 yX5_within, Cond.static yX5_within, Cond.code yX5_within cX5_within 3 (some .boolean), Cond.methodLink RX5 187 yX5_isEnough, Cond.instanceMethod yX5_isEnough, Cond.selects RX5 yX5_isEnough yX5_isEnough, Cond.code yX5_isEnough cX5_isEnough 3 (some .boolean), Cond.fieldLink RX5 13 "MajorityIndexModel" "slots" "I", Cond.methodLink RX5 171 yX5_sums, Cond.instanceMethod yX5_sums, Cond.selects RX5 yX5_sums yX5_sums, Cond.code yX5_sums cX5_sums 3 none]
def wsX5_failed_r2 : List Cond := [Cond.methodLink RX5 124 yX5_laysAll, Cond.instanceMethod yX5_laysAll, Cond.selects RX5 yX5_laysAll yX5_laysAll, Cond.code yX5_laysAll cX5_laysAll 2 none, Cond.fieldLink RX5 101 "MajorityIndexModel" "nodes" "I", Cond.methodLink RX5 107 yX5_lays, Cond.instanceMethod yX5_lays, Cond.selects RX5 yX5_lays yX5_lays, Cond.code yX5_lays cX5_lays 8 (some .int), Cond.fieldLink RX5 38 "MajorityIndexModel" "nodeL" "[I", Cond.fieldLink RX5 41 "MajorityIndexModel" "nodeR" "[I", Cond.fieldLink RX5 7 "MajorityIndexModel" "row" "[I", Cond.methodLink RX5 104 yX5_one, Cond.instanceMethod yX5_one, Cond.selects RX5 yX5_one yX5_one, Cond.code yX5_one cX5_one 3 none, Cond.fieldLink RX5 20 "MajorityIndexModel" "loss" "[I", Cond.fieldLink RX5 23 "MajorityIndexModel" "less" "[I", Cond.fieldLink RX5 29 "MajorityIndexModel" "voteNumber" "[I", Cond.methodLink RX5 111 yX5_together, Cond.instanceMethod yX5_together, Cond.selects RX5 yX5_together yX5_together, Cond.code yX5_together cX5_together 9 none, Cond.fieldLink RX5 87 "MajorityIndexModel" "allMany" "I"]
def wsX5_failed_r3 : List Cond := [Cond.fieldLink RX5 35 "MajorityIndexModel" "allNumber" "[I", Cond.fieldLink RX5 32 "MajorityIndexModel" "allValue" "[I", Cond.methodLink RX5 94 yX5_adds, Cond.instanceMethod yX5_adds, Cond.selects RX5 yX5_adds yX5_adds, Cond.code yX5_adds cX5_adds 4 none, Cond.methodLink RX5 98 yX5_sorts, Cond.instanceMethod yX5_sorts, Cond.selects RX5 yX5_sorts yX5_sorts, Cond.code yX5_sorts cX5_sorts 4 none, Cond.methodLink RX5 90 yX5_isAhead, Cond.instanceMethod yX5_isAhead, Cond.selects RX5 yX5_isAhead yX5_isAhead, Cond.code yX5_isAhead cX5_isAhead 3 (some .boolean), Cond.methodLink RX5 168 yX5_folds, Cond.instanceMethod yX5_folds, Cond.selects RX5 yX5_folds yX5_folds, Cond.code yX5_folds cX5_folds 6 none, Cond.fieldLink RX5 44 "MajorityIndexModel" "part" "[I", Cond.fieldLink RX5 115 "MajorityIndexModel" "partMany" "I", Cond.methodLink RX5 118 yX5_laysParts, Cond.instanceMethod yX5_laysParts, Cond.selects RX5 yX5_laysParts yX5_laysParts, Cond.code yX5_laysParts cX5_laysParts 5 none]
def wsX5_failed_r4 : List Cond := [Cond.methodLink RX5 121 yX5_copies, Cond.instanceMethod yX5_copies, Cond.selects RX5 yX5_copies yX5_copies, Cond.code yX5_copies cX5_copies 4 none, Cond.methodLink RX5 149 yX5_times, Cond.instanceMethod yX5_times, Cond.selects RX5 yX5_times yX5_times, Cond.code yX5_times cX5_times 6 (some .int)]
def wsX5_failed : List Cond := .code yX5_failed cX5_failed 7 (some .int) :: ((wsX5_failed_r1 ++ (wsX5_failed_r2 ++ (wsX5_failed_r3 ++ wsX5_failed_r4))) ++ wsX50)
theorem mi_wsX5_parts_wsX5_parts_r1 : ∀ w ∈ wsX5_parts_r1, w ∈ wsX5_parts := fun _ h => (List.mem_cons_of_mem _ (List.mem_append_left _ (List.mem_append_left _ h)))
theorem mi_wsX5_parts_wsX50 : ∀ w ∈ wsX50, w ∈ wsX5_parts := fun _ h => (List.mem_cons_of_mem _ (List.mem_append_right _ h))
set_option maxRecDepth 20000 in
theorem ggX5_parts_X5_isRange : GoodIn wsX5_parts wsX5_isRange := goodIn_k _ [(wsX5_parts_r1, [7, 8]), (wsX50, [0, 1, 2, 3, 4, 5, 6, 7, 8, 9, 10, 11, 12, 13, 14, 15, 16, 17, 18, 19, 20, 21, 22, 23, 24, 25, 26, 27, 28, 29])] (gk_c mi_wsX5_parts_wsX5_parts_r1 (gk_c mi_wsX5_parts_wsX50 gk_n)) rfl (by decide +kernel)
set_option maxRecDepth 20000 in
theorem gX5_parts_X5_isRange : GoodIn wsX5_parts (wsV RX5 142 RX5 yX5_isRange wsX5_isRange) := goodIn_app (goodIn_k _ [(wsX5_parts_r1, [3, 4, 5, 6])] (gk_c mi_wsX5_parts_wsX5_parts_r1 gk_n) rfl (by decide +kernel)) ggX5_parts_X5_isRange
theorem mi_wsX5_parts_wsX5_parts_r2 : ∀ w ∈ wsX5_parts_r2, w ∈ wsX5_parts := fun _ h => (List.mem_cons_of_mem _ (List.mem_append_left _ (List.mem_append_right _ (List.mem_append_left _ h))))
theorem mi_wsX5_parts_wsX5_parts_r3 : ∀ w ∈ wsX5_parts_r3, w ∈ wsX5_parts := fun _ h => (List.mem_cons_of_mem _ (List.mem_append_left _ (List.mem_append_right _ (List.mem_append_right _ h))))
set_option maxRecDepth 20000 in
theorem ggX5_parts_X5_laysAll : GoodIn wsX5_parts wsX5_laysAll := goodIn_k _ [(wsX5_parts_r1, [12, 13, 8, 14, 15, 16, 6, 17, 18, 19, 20, 21, 22, 23]), (wsX5_parts_r2, [0, 1, 2, 3, 4, 5, 6, 7, 8, 9, 10, 11, 12, 13, 14, 15, 16, 17, 18, 19, 20, 21, 22, 23]), (wsX5_parts_r3, [0]), (wsX50, [0, 1, 2, 3, 4, 5, 6, 7, 8, 9, 10, 11, 12, 13, 14, 15, 16, 17, 18, 19, 20, 21, 22, 23, 24, 25, 26, 27, 28, 29])] (gk_c mi_wsX5_parts_wsX5_parts_r1 (gk_c mi_wsX5_parts_wsX5_parts_r2 (gk_c mi_wsX5_parts_wsX5_parts_r3 (gk_c mi_wsX5_parts_wsX50 gk_n)))) rfl (by decide +kernel)
set_option maxRecDepth 20000 in
theorem gX5_parts_X5_laysAll : GoodIn wsX5_parts (wsV RX5 124 RX5 yX5_laysAll wsX5_laysAll) := goodIn_app (goodIn_k _ [(wsX5_parts_r1, [9, 10, 11, 6])] (gk_c mi_wsX5_parts_wsX5_parts_r1 gk_n) rfl (by decide +kernel)) ggX5_parts_X5_laysAll
set_option maxRecDepth 20000 in
theorem ggX5_parts_X5_laysParts : GoodIn wsX5_parts wsX5_laysParts := goodIn_k _ [(wsX5_parts_r3, [4]), (wsX5_parts_r1, [2, 13, 18, 19]), (wsX5_parts_r3, [5]), (wsX50, [0, 1, 2, 3, 4, 5, 6, 7, 8, 9, 10, 11, 12, 13, 14, 15, 16, 17, 18, 19, 20, 21, 22, 23, 24, 25, 26, 27, 28, 29])] (gk_c mi_wsX5_parts_wsX5_parts_r3 (gk_c mi_wsX5_parts_wsX5_parts_r1 (gk_c mi_wsX5_parts_wsX5_parts_r3 (gk_c mi_wsX5_parts_wsX50 gk_n)))) rfl (by decide +kernel)
set_option maxRecDepth 20000 in
theorem gX5_parts_X5_laysParts : GoodIn wsX5_parts (wsV RX5 118 RX5 yX5_laysParts wsX5_laysParts) := goodIn_app (goodIn_k _ [(wsX5_parts_r3, [1, 2, 3]), (wsX5_parts_r1, [6])] (gk_c mi_wsX5_parts_wsX5_parts_r3 (gk_c mi_wsX5_parts_wsX5_parts_r1 gk_n)) rfl (by decide +kernel)) ggX5_parts_X5_laysParts
def dt_cX5_parts_0 : List (Nat × Instr × Nat) := [(0, .aload_n 0, 1), (1, .iconst 0, 1), (2, .putfield 77, 3), (5, .aload_n 0, 1), (6, .iload_n 1, 1), (7, .iload_n 2, 1), (8, .invokevirtual 142, 3), (11, .ifCond .ne 5, 3), (14, .iconst (-1), 1), (15, .ireturn, 1), (16, .aload_n 0, 1), (17, .aload_n 0, 1), (18, .getfield 13, 3), (21, .invokevirtual 124, 3), (24, .aload_n 0, 1), (25, .iload_n 1, 1), (26, .iload_n 2, 1), (27, .invokevirtual 118, 3), (30, .aload_n 0, 1), (31, .getfield 115, 3), (34, .ireturn, 1)]
theorem da_cX5_parts_0 : dk_all cX5_parts dt_cX5_parts_0 = true := by decide +kernel
theorem dX5_parts_0 : decode cX5_parts 0 = .ok (.aload_n 0, 1) := dk_get _ da_cX5_parts_0 0 _ _ _ rfl
theorem dX5_parts_1 : decode cX5_parts 1 = .ok (.iconst 0, 1) := dk_get _ da_cX5_parts_0 1 _ _ _ rfl
theorem dX5_parts_2 : decode cX5_parts 2 = .ok (.putfield 77, 3) := dk_get _ da_cX5_parts_0 2 _ _ _ rfl
theorem dX5_parts_5 : decode cX5_parts 5 = .ok (.aload_n 0, 1) := dk_get _ da_cX5_parts_0 3 _ _ _ rfl
theorem dX5_parts_6 : decode cX5_parts 6 = .ok (.iload_n 1, 1) := dk_get _ da_cX5_parts_0 4 _ _ _ rfl
theorem dX5_parts_7 : decode cX5_parts 7 = .ok (.iload_n 2, 1) := dk_get _ da_cX5_parts_0 5 _ _ _ rfl
theorem dX5_parts_8 : decode cX5_parts 8 = .ok (.invokevirtual 142, 3) := dk_get _ da_cX5_parts_0 6 _ _ _ rfl
theorem dX5_parts_11 : decode cX5_parts 11 = .ok (.ifCond .ne 5, 3) := dk_get _ da_cX5_parts_0 7 _ _ _ rfl
theorem dX5_parts_14 : decode cX5_parts 14 = .ok (.iconst (-1), 1) := dk_get _ da_cX5_parts_0 8 _ _ _ rfl
theorem dX5_parts_15 : decode cX5_parts 15 = .ok (.ireturn, 1) := dk_get _ da_cX5_parts_0 9 _ _ _ rfl
theorem dX5_parts_16 : decode cX5_parts 16 = .ok (.aload_n 0, 1) := dk_get _ da_cX5_parts_0 10 _ _ _ rfl
theorem dX5_parts_17 : decode cX5_parts 17 = .ok (.aload_n 0, 1) := dk_get _ da_cX5_parts_0 11 _ _ _ rfl
theorem dX5_parts_18 : decode cX5_parts 18 = .ok (.getfield 13, 3) := dk_get _ da_cX5_parts_0 12 _ _ _ rfl
theorem dX5_parts_21 : decode cX5_parts 21 = .ok (.invokevirtual 124, 3) := dk_get _ da_cX5_parts_0 13 _ _ _ rfl
theorem dX5_parts_24 : decode cX5_parts 24 = .ok (.aload_n 0, 1) := dk_get _ da_cX5_parts_0 14 _ _ _ rfl
theorem dX5_parts_25 : decode cX5_parts 25 = .ok (.iload_n 1, 1) := dk_get _ da_cX5_parts_0 15 _ _ _ rfl
theorem dX5_parts_26 : decode cX5_parts 26 = .ok (.iload_n 2, 1) := dk_get _ da_cX5_parts_0 16 _ _ _ rfl
theorem dX5_parts_27 : decode cX5_parts 27 = .ok (.invokevirtual 118, 3) := dk_get _ da_cX5_parts_0 17 _ _ _ rfl
theorem dX5_parts_30 : decode cX5_parts 30 = .ok (.aload_n 0, 1) := dk_get _ da_cX5_parts_0 18 _ _ _ rfl
theorem dX5_parts_31 : decode cX5_parts 31 = .ok (.getfield 115, 3) := dk_get _ da_cX5_parts_0 19 _ _ _ rfl
theorem dX5_parts_34 : decode cX5_parts 34 = .ok (.ireturn, 1) := dk_get _ da_cX5_parts_0 20 _ _ _ rfl
theorem mi_wsX5_part_wsX5_part_r1 : ∀ w ∈ wsX5_part_r1, w ∈ wsX5_part := fun _ h => (List.mem_cons_of_mem _ (List.mem_append_left _ (List.mem_append_left _ h)))
theorem mi_wsX5_part_wsX50 : ∀ w ∈ wsX50, w ∈ wsX5_part := fun _ h => (List.mem_cons_of_mem _ (List.mem_append_right _ h))
set_option maxRecDepth 20000 in
theorem ggX5_part_X5_isRange : GoodIn wsX5_part wsX5_isRange := goodIn_k _ [(wsX5_part_r1, [10, 11]), (wsX50, [0, 1, 2, 3, 4, 5, 6, 7, 8, 9, 10, 11, 12, 13, 14, 15, 16, 17, 18, 19, 20, 21, 22, 23, 24, 25, 26, 27, 28, 29])] (gk_c mi_wsX5_part_wsX5_part_r1 (gk_c mi_wsX5_part_wsX50 gk_n)) rfl (by decide +kernel)
set_option maxRecDepth 20000 in
theorem gX5_part_X5_isRange : GoodIn wsX5_part (wsV RX5 142 RX5 yX5_isRange wsX5_isRange) := goodIn_app (goodIn_k _ [(wsX5_part_r1, [6, 7, 8, 9])] (gk_c mi_wsX5_part_wsX5_part_r1 gk_n) rfl (by decide +kernel)) ggX5_part_X5_isRange
set_option maxRecDepth 20000 in
theorem ggX5_part_X5_within : GoodIn wsX5_part wsX5_within := goodIn_k _ [(wsX5_part_r1, [14])] (gk_c mi_wsX5_part_wsX5_part_r1 gk_n) rfl (by decide +kernel)
set_option maxRecDepth 20000 in
theorem gX5_part_X5_within : GoodIn wsX5_part (va_wsS RX5 80 yX5_within wsX5_within) := goodIn_app (goodIn_k _ [(wsX5_part_r1, [12, 13, 9])] (gk_c mi_wsX5_part_wsX5_part_r1 gk_n) rfl (by decide +kernel)) ggX5_part_X5_within
theorem mi_wsX5_part_wsX5_part_r2 : ∀ w ∈ wsX5_part_r2, w ∈ wsX5_part := fun _ h => (List.mem_cons_of_mem _ (List.mem_append_left _ (List.mem_append_right _ (List.mem_append_left _ h))))
theorem mi_wsX5_part_wsX5_part_r3 : ∀ w ∈ wsX5_part_r3, w ∈ wsX5_part := fun _ h => (List.mem_cons_of_mem _ (List.mem_append_left _ (List.mem_append_right _ (List.mem_append_right _ h))))
set_option maxRecDepth 20000 in
theorem ggX5_part_X5_laysAll : GoodIn wsX5_part wsX5_laysAll := goodIn_k _ [(wsX5_part_r1, [18, 19, 11, 20, 21, 22, 9, 23, 3, 5]), (wsX5_part_r2, [0, 1, 2, 3, 4, 5, 6, 7, 8, 9, 10, 11, 12, 13, 14, 15, 16, 17, 18, 19, 20, 21, 22, 23]), (wsX5_part_r3, [0, 1, 2, 3, 4]), (wsX50, [0, 1, 2, 3, 4, 5, 6, 7, 8, 9, 10, 11, 12, 13, 14, 15, 16, 17, 18, 19, 20, 21, 22, 23, 24, 25, 26, 27, 28, 29])] (gk_c mi_wsX5_part_wsX5_part_r1 (gk_c mi_wsX5_part_wsX5_part_r2 (gk_c mi_wsX5_part_wsX5_part_r3 (gk_c mi_wsX5_part_wsX50 gk_n)))) rfl (by decide +kernel)
set_option maxRecDepth 20000 in
theorem gX5_part_X5_laysAll : GoodIn wsX5_part (wsV RX5 124 RX5 yX5_laysAll wsX5_laysAll) := goodIn_app (goodIn_k _ [(wsX5_part_r1, [15, 16, 17, 9])] (gk_c mi_wsX5_part_wsX5_part_r1 gk_n) rfl (by decide +kernel)) ggX5_part_X5_laysAll
set_option maxRecDepth 20000 in
theorem ggX5_part_X5_laysParts : GoodIn wsX5_part wsX5_laysParts := goodIn_k _ [(wsX5_part_r3, [8]), (wsX5_part_r1, [2, 19, 3, 5, 4]), (wsX50, [0, 1, 2, 3, 4, 5, 6, 7, 8, 9, 10, 11, 12, 13, 14, 15, 16, 17, 18, 19, 20, 21, 22, 23, 24, 25, 26, 27, 28, 29])] (gk_c mi_wsX5_part_wsX5_part_r3 (gk_c mi_wsX5_part_wsX5_part_r1 (gk_c mi_wsX5_part_wsX50 gk_n))) rfl (by decide +kernel)
set_option maxRecDepth 20000 in
theorem gX5_part_X5_laysParts : GoodIn wsX5_part (wsV RX5 118 RX5 yX5_laysParts wsX5_laysParts) := goodIn_app (goodIn_k _ [(wsX5_part_r3, [5, 6, 7]), (wsX5_part_r1, [9])] (gk_c mi_wsX5_part_wsX5_part_r3 (gk_c mi_wsX5_part_wsX5_part_r1 gk_n)) rfl (by decide +kernel)) ggX5_part_X5_laysParts
def dt_cX5_part_0 : List (Nat × Instr × Nat) := [(0, .aload_n 0, 1), (1, .iconst 0, 1), (2, .putfield 77, 3), (5, .aload_n 0, 1), (6, .iload_n 1, 1), (7, .iload_n 2, 1), (8, .invokevirtual 142, 3), (11, .ifCond .eq 13, 3), (14, .iload 4, 2), (16, .iconst 0, 1), (17, .iconst 1, 1), (18, .invokestatic 80, 3), (21, .ifCond .ne 5, 3), (24, .iconst (-1), 1), (25, .ireturn, 1), (26, .aload_n 0, 1), (27, .aload_n 0, 1), (28, .getfield 13, 3), (31, .invokevirtual 124, 3), (34, .aload_n 0, 1), (35, .iload_n 1, 1), (36, .iload_n 2, 1), (37, .invokevirtual 118, 3), (40, .iload_n 3, 1), (41, .iconst 0, 1), (42, .aload_n 0, 1), (43, .getfield 115, 3), (46, .iconst 1, 1), (47, .isub, 1), (48, .invokestatic 80, 3), (51, .ifCond .ne 5, 3), (54, .iconst (-1), 1), (55, .ireturn, 1), (56, .iload 4, 2), (58, .ifCond .ne 17, 3), (61, .aload_n 0, 1), (62, .getfield 38, 3), (65, .aload_n 0, 1), (66, .getfield 44, 3), (69, .iload_n 3, 1), (70, .iaload, 1), (71, .iaload, 1), (72, .goto 14, 3), (75, .aload_n 0, 1), (76, .getfield 41, 3), (79, .aload_n 0, 1), (80, .getfield 44, 3), (83, .iload_n 3, 1), (84, .iaload, 1), (85, .iaload, 1), (86, .ireturn, 1)]
theorem da_cX5_part_0 : dk_all cX5_part dt_cX5_part_0 = true := by decide +kernel
theorem dX5_part_0 : decode cX5_part 0 = .ok (.aload_n 0, 1) := dk_get _ da_cX5_part_0 0 _ _ _ rfl
theorem dX5_part_1 : decode cX5_part 1 = .ok (.iconst 0, 1) := dk_get _ da_cX5_part_0 1 _ _ _ rfl
theorem dX5_part_2 : decode cX5_part 2 = .ok (.putfield 77, 3) := dk_get _ da_cX5_part_0 2 _ _ _ rfl
theorem dX5_part_5 : decode cX5_part 5 = .ok (.aload_n 0, 1) := dk_get _ da_cX5_part_0 3 _ _ _ rfl
theorem dX5_part_6 : decode cX5_part 6 = .ok (.iload_n 1, 1) := dk_get _ da_cX5_part_0 4 _ _ _ rfl
theorem dX5_part_7 : decode cX5_part 7 = .ok (.iload_n 2, 1) := dk_get _ da_cX5_part_0 5 _ _ _ rfl
theorem dX5_part_8 : decode cX5_part 8 = .ok (.invokevirtual 142, 3) := dk_get _ da_cX5_part_0 6 _ _ _ rfl
theorem dX5_part_11 : decode cX5_part 11 = .ok (.ifCond .eq 13, 3) := dk_get _ da_cX5_part_0 7 _ _ _ rfl
theorem dX5_part_14 : decode cX5_part 14 = .ok (.iload 4, 2) := dk_get _ da_cX5_part_0 8 _ _ _ rfl
theorem dX5_part_16 : decode cX5_part 16 = .ok (.iconst 0, 1) := dk_get _ da_cX5_part_0 9 _ _ _ rfl
theorem dX5_part_17 : decode cX5_part 17 = .ok (.iconst 1, 1) := dk_get _ da_cX5_part_0 10 _ _ _ rfl
theorem dX5_part_18 : decode cX5_part 18 = .ok (.invokestatic 80, 3) := dk_get _ da_cX5_part_0 11 _ _ _ rfl
theorem dX5_part_21 : decode cX5_part 21 = .ok (.ifCond .ne 5, 3) := dk_get _ da_cX5_part_0 12 _ _ _ rfl
theorem dX5_part_24 : decode cX5_part 24 = .ok (.iconst (-1), 1) := dk_get _ da_cX5_part_0 13 _ _ _ rfl
theorem dX5_part_25 : decode cX5_part 25 = .ok (.ireturn, 1) := dk_get _ da_cX5_part_0 14 _ _ _ rfl
theorem dX5_part_26 : decode cX5_part 26 = .ok (.aload_n 0, 1) := dk_get _ da_cX5_part_0 15 _ _ _ rfl
theorem dX5_part_27 : decode cX5_part 27 = .ok (.aload_n 0, 1) := dk_get _ da_cX5_part_0 16 _ _ _ rfl
theorem dX5_part_28 : decode cX5_part 28 = .ok (.getfield 13, 3) := dk_get _ da_cX5_part_0 17 _ _ _ rfl
theorem dX5_part_31 : decode cX5_part 31 = .ok (.invokevirtual 124, 3) := dk_get _ da_cX5_part_0 18 _ _ _ rfl
theorem dX5_part_34 : decode cX5_part 34 = .ok (.aload_n 0, 1) := dk_get _ da_cX5_part_0 19 _ _ _ rfl
theorem dX5_part_35 : decode cX5_part 35 = .ok (.iload_n 1, 1) := dk_get _ da_cX5_part_0 20 _ _ _ rfl
theorem dX5_part_36 : decode cX5_part 36 = .ok (.iload_n 2, 1) := dk_get _ da_cX5_part_0 21 _ _ _ rfl
theorem dX5_part_37 : decode cX5_part 37 = .ok (.invokevirtual 118, 3) := dk_get _ da_cX5_part_0 22 _ _ _ rfl
theorem dX5_part_40 : decode cX5_part 40 = .ok (.iload_n 3, 1) := dk_get _ da_cX5_part_0 23 _ _ _ rfl
theorem dX5_part_41 : decode cX5_part 41 = .ok (.iconst 0, 1) := dk_get _ da_cX5_part_0 24 _ _ _ rfl
theorem dX5_part_42 : decode cX5_part 42 = .ok (.aload_n 0, 1) := dk_get _ da_cX5_part_0 25 _ _ _ rfl
theorem dX5_part_43 : decode cX5_part 43 = .ok (.getfield 115, 3) := dk_get _ da_cX5_part_0 26 _ _ _ rfl
theorem dX5_part_46 : decode cX5_part 46 = .ok (.iconst 1, 1) := dk_get _ da_cX5_part_0 27 _ _ _ rfl
theorem dX5_part_47 : decode cX5_part 47 = .ok (.isub, 1) := dk_get _ da_cX5_part_0 28 _ _ _ rfl
theorem dX5_part_48 : decode cX5_part 48 = .ok (.invokestatic 80, 3) := dk_get _ da_cX5_part_0 29 _ _ _ rfl
theorem dX5_part_51 : decode cX5_part 51 = .ok (.ifCond .ne 5, 3) := dk_get _ da_cX5_part_0 30 _ _ _ rfl
theorem dX5_part_54 : decode cX5_part 54 = .ok (.iconst (-1), 1) := dk_get _ da_cX5_part_0 31 _ _ _ rfl
theorem dX5_part_55 : decode cX5_part 55 = .ok (.ireturn, 1) := dk_get _ da_cX5_part_0 32 _ _ _ rfl
theorem dX5_part_56 : decode cX5_part 56 = .ok (.iload 4, 2) := dk_get _ da_cX5_part_0 33 _ _ _ rfl
theorem dX5_part_58 : decode cX5_part 58 = .ok (.ifCond .ne 17, 3) := dk_get _ da_cX5_part_0 34 _ _ _ rfl
theorem dX5_part_61 : decode cX5_part 61 = .ok (.aload_n 0, 1) := dk_get _ da_cX5_part_0 35 _ _ _ rfl
theorem dX5_part_62 : decode cX5_part 62 = .ok (.getfield 38, 3) := dk_get _ da_cX5_part_0 36 _ _ _ rfl
theorem dX5_part_65 : decode cX5_part 65 = .ok (.aload_n 0, 1) := dk_get _ da_cX5_part_0 37 _ _ _ rfl
theorem dX5_part_66 : decode cX5_part 66 = .ok (.getfield 44, 3) := dk_get _ da_cX5_part_0 38 _ _ _ rfl
theorem dX5_part_69 : decode cX5_part 69 = .ok (.iload_n 3, 1) := dk_get _ da_cX5_part_0 39 _ _ _ rfl
theorem dX5_part_70 : decode cX5_part 70 = .ok (.iaload, 1) := dk_get _ da_cX5_part_0 40 _ _ _ rfl
theorem dX5_part_71 : decode cX5_part 71 = .ok (.iaload, 1) := dk_get _ da_cX5_part_0 41 _ _ _ rfl
theorem dX5_part_72 : decode cX5_part 72 = .ok (.goto 14, 3) := dk_get _ da_cX5_part_0 42 _ _ _ rfl
theorem dX5_part_75 : decode cX5_part 75 = .ok (.aload_n 0, 1) := dk_get _ da_cX5_part_0 43 _ _ _ rfl
theorem dX5_part_76 : decode cX5_part 76 = .ok (.getfield 41, 3) := dk_get _ da_cX5_part_0 44 _ _ _ rfl
theorem dX5_part_79 : decode cX5_part 79 = .ok (.aload_n 0, 1) := dk_get _ da_cX5_part_0 45 _ _ _ rfl
theorem dX5_part_80 : decode cX5_part 80 = .ok (.getfield 44, 3) := dk_get _ da_cX5_part_0 46 _ _ _ rfl
theorem dX5_part_83 : decode cX5_part 83 = .ok (.iload_n 3, 1) := dk_get _ da_cX5_part_0 47 _ _ _ rfl
theorem dX5_part_84 : decode cX5_part 84 = .ok (.iaload, 1) := dk_get _ da_cX5_part_0 48 _ _ _ rfl
theorem dX5_part_85 : decode cX5_part 85 = .ok (.iaload, 1) := dk_get _ da_cX5_part_0 49 _ _ _ rfl
theorem dX5_part_86 : decode cX5_part 86 = .ok (.ireturn, 1) := dk_get _ da_cX5_part_0 50 _ _ _ rfl
theorem mi_wsX5_sums_wsX5_sums_r1 : ∀ w ∈ wsX5_sums_r1, w ∈ wsX5_sums := fun _ h => (List.mem_cons_of_mem _ (List.mem_append_left _ (List.mem_append_left _ h)))
theorem mi_wsX5_sums_wsX5_sums_r2 : ∀ w ∈ wsX5_sums_r2, w ∈ wsX5_sums := fun _ h => (List.mem_cons_of_mem _ (List.mem_append_left _ (List.mem_append_right _ (List.mem_append_left _ h))))
theorem mi_wsX5_sums_wsX50 : ∀ w ∈ wsX50, w ∈ wsX5_sums := fun _ h => (List.mem_cons_of_mem _ (List.mem_append_right _ h))
set_option maxRecDepth 20000 in
theorem ggX5_sums_X5_laysAll : GoodIn wsX5_sums wsX5_laysAll := goodIn_k _ [(wsX5_sums_r1, [5, 6, 7, 8, 9, 10, 4, 11, 12, 13, 14, 15, 16, 17, 18, 19, 20, 21, 22, 23]), (wsX5_sums_r2, [0, 1, 2, 3, 4, 5, 6, 7, 8, 9, 10, 11, 12, 13, 14, 15, 16, 17, 18]), (wsX50, [0, 1, 2, 3, 4, 5, 6, 7, 8, 9, 10, 11, 12, 13, 14, 15, 16, 17, 18, 19, 20, 21, 22, 23, 24, 25, 26, 27, 28, 29])] (gk_c mi_wsX5_sums_wsX5_sums_r1 (gk_c mi_wsX5_sums_wsX5_sums_r2 (gk_c mi_wsX5_sums_wsX50 gk_n))) rfl (by decide +kernel)
set_option maxRecDepth 20000 in
theorem gX5_sums_X5_laysAll : GoodIn wsX5_sums (wsV RX5 124 RX5 yX5_laysAll wsX5_laysAll) := goodIn_app (goodIn_k _ [(wsX5_sums_r1, [1, 2, 3, 4])] (gk_c mi_wsX5_sums_wsX5_sums_r1 gk_n) rfl (by decide +kernel)) ggX5_sums_X5_laysAll
theorem mi_wsX5_sums_wsX5_sums_r3 : ∀ w ∈ wsX5_sums_r3, w ∈ wsX5_sums := fun _ h => (List.mem_cons_of_mem _ (List.mem_append_left _ (List.mem_append_right _ (List.mem_append_right _ h))))
set_option maxRecDepth 20000 in
theorem ggX5_sums_X5_folds : GoodIn wsX5_sums wsX5_folds := goodIn_k _ [(wsX5_sums_r2, [22, 23]), (wsX5_sums_r3, [0, 1, 2, 3]), (wsX5_sums_r1, [4]), (wsX5_sums_r3, [4]), (wsX5_sums_r1, [6, 12, 13]), (wsX5_sums_r3, [5, 6, 7, 8]), (wsX5_sums_r1, [19, 20, 21, 22, 23]), (wsX5_sums_r2, [0, 1, 2, 3, 4, 5, 6, 7, 8, 9, 10, 11, 12, 13, 14, 15, 16, 17, 18]), (wsX50, [0, 1, 2, 3, 4, 5, 6, 7, 8, 9, 10, 11, 12, 13, 14, 15, 16, 17, 18, 19, 20, 21, 22, 23, 24, 25, 26, 27, 28, 29])] (gk_c mi_wsX5_sums_wsX5_sums_r2 (gk_c mi_wsX5_sums_wsX5_sums_r3 (gk_c mi_wsX5_sums_wsX5_sums_r1 (gk_c mi_wsX5_sums_wsX5_sums_r3 (gk_c mi_wsX5_sums_wsX5_sums_r1 (gk_c mi_wsX5_sums_wsX5_sums_r3 (gk_c mi_wsX5_sums_wsX5_sums_r1 (gk_c mi_wsX5_sums_wsX5_sums_r2 (gk_c mi_wsX5_sums_wsX50 gk_n))))))))) rfl (by decide +kernel)
set_option maxRecDepth 20000 in
theorem gX5_sums_X5_folds : GoodIn wsX5_sums (wsV RX5 168 RX5 yX5_folds wsX5_folds) := goodIn_app (goodIn_k _ [(wsX5_sums_r2, [19, 20, 21]), (wsX5_sums_r1, [4])] (gk_c mi_wsX5_sums_wsX5_sums_r2 (gk_c mi_wsX5_sums_wsX5_sums_r1 gk_n)) rfl (by decide +kernel)) ggX5_sums_X5_folds
def dt_cX5_sums_0 : List (Nat × Instr × Nat) := [(0, .aload_n 0, 1), (1, .aload_n 0, 1), (2, .getfield 13, 3), (5, .invokevirtual 124, 3), (8, .aload_n 0, 1), (9, .iload_n 1, 1), (10, .iload_n 2, 1), (11, .sipush 320, 3), (14, .aload_n 0, 1), (15, .getfield 13, 3), (18, .invokevirtual 168, 3), (21, .return_, 1)]
theorem da_cX5_sums_0 : dk_all cX5_sums dt_cX5_sums_0 = true := by decide +kernel
theorem dX5_sums_0 : decode cX5_sums 0 = .ok (.aload_n 0, 1) := dk_get _ da_cX5_sums_0 0 _ _ _ rfl
theorem dX5_sums_1 : decode cX5_sums 1 = .ok (.aload_n 0, 1) := dk_get _ da_cX5_sums_0 1 _ _ _ rfl
theorem dX5_sums_2 : decode cX5_sums 2 = .ok (.getfield 13, 3) := dk_get _ da_cX5_sums_0 2 _ _ _ rfl
theorem dX5_sums_5 : decode cX5_sums 5 = .ok (.invokevirtual 124, 3) := dk_get _ da_cX5_sums_0 3 _ _ _ rfl
theorem dX5_sums_8 : decode cX5_sums 8 = .ok (.aload_n 0, 1) := dk_get _ da_cX5_sums_0 4 _ _ _ rfl
theorem dX5_sums_9 : decode cX5_sums 9 = .ok (.iload_n 1, 1) := dk_get _ da_cX5_sums_0 5 _ _ _ rfl
theorem dX5_sums_10 : decode cX5_sums 10 = .ok (.iload_n 2, 1) := dk_get _ da_cX5_sums_0 6 _ _ _ rfl
theorem dX5_sums_11 : decode cX5_sums 11 = .ok (.sipush 320, 3) := dk_get _ da_cX5_sums_0 7 _ _ _ rfl
theorem dX5_sums_14 : decode cX5_sums 14 = .ok (.aload_n 0, 1) := dk_get _ da_cX5_sums_0 8 _ _ _ rfl
theorem dX5_sums_15 : decode cX5_sums 15 = .ok (.getfield 13, 3) := dk_get _ da_cX5_sums_0 9 _ _ _ rfl
theorem dX5_sums_18 : decode cX5_sums 18 = .ok (.invokevirtual 168, 3) := dk_get _ da_cX5_sums_0 10 _ _ _ rfl
theorem dX5_sums_21 : decode cX5_sums 21 = .ok (.return_, 1) := dk_get _ da_cX5_sums_0 11 _ _ _ rfl
theorem mi_wsX5_summary_wsX5_summary_r1 : ∀ w ∈ wsX5_summary_r1, w ∈ wsX5_summary := fun _ h => (List.mem_cons_of_mem _ (List.mem_append_left _ (List.mem_append_left _ h)))
theorem mi_wsX5_summary_wsX50 : ∀ w ∈ wsX50, w ∈ wsX5_summary := fun _ h => (List.mem_cons_of_mem _ (List.mem_append_right _ h))
set_option maxRecDepth 20000 in
theorem ggX5_summary_X5_isRange : GoodIn wsX5_summary wsX5_isRange := goodIn_k _ [(wsX5_summary_r1, [7, 8]), (wsX50, [0, 1, 2, 3, 4, 5, 6, 7, 8, 9, 10, 11, 12, 13, 14, 15, 16, 17, 18, 19, 20, 21, 22, 23, 24, 25, 26, 27, 28, 29])] (gk_c mi_wsX5_summary_wsX5_summary_r1 (gk_c mi_wsX5_summary_wsX50 gk_n)) rfl (by decide +kernel)
set_option maxRecDepth 20000 in
theorem gX5_summary_X5_isRange : GoodIn wsX5_summary (wsV RX5 142 RX5 yX5_isRange wsX5_isRange) := goodIn_app (goodIn_k _ [(wsX5_summary_r1, [3, 4, 5, 6])] (gk_c mi_wsX5_summary_wsX5_summary_r1 gk_n) rfl (by decide +kernel)) ggX5_summary_X5_isRange
set_option maxRecDepth 20000 in
theorem ggX5_summary_X5_within : GoodIn wsX5_summary wsX5_within := goodIn_k _ [(wsX5_summary_r1, [11])] (gk_c mi_wsX5_summary_wsX5_summary_r1 gk_n) rfl (by decide +kernel)
set_option maxRecDepth 20000 in
theorem gX5_summary_X5_within : GoodIn wsX5_summary (va_wsS RX5 80 yX5_within wsX5_within) := goodIn_app (goodIn_k _ [(wsX5_summary_r1, [9, 10, 6])] (gk_c mi_wsX5_summary_wsX5_summary_r1 gk_n) rfl (by decide +kernel)) ggX5_summary_X5_within
theorem mi_wsX5_summary_wsX5_summary_r2 : ∀ w ∈ wsX5_summary_r2, w ∈ wsX5_summary := fun _ h => (List.mem_cons_of_mem _ (List.mem_append_left _ (List.mem_append_right _ (List.mem_append_left _ h))))
theorem mi_wsX5_summary_wsX5_summary_r3 : ∀ w ∈ wsX5_summary_r3, w ∈ wsX5_summary := fun _ h => (List.mem_cons_of_mem _ (List.mem_append_left _ (List.mem_append_right _ (List.mem_append_right _ (List.mem_append_left _ h)))))
set_option maxRecDepth 20000 in
theorem ggX5_summary_X5_sums : GoodIn wsX5_summary wsX5_sums := goodIn_k _ [(wsX5_summary_r1, [15, 16, 17, 18, 19, 6, 20, 21, 8, 22, 23]), (wsX5_summary_r2, [0, 1, 2, 3, 4, 5, 6, 7, 8]), (wsX5_summary_r1, [1, 2]), (wsX5_summary_r2, [9, 10, 11, 12, 13, 14, 15, 16, 17, 18, 19, 20, 21, 22, 23]), (wsX5_summary_r3, [0, 1, 2, 3, 4, 5, 6, 7, 8, 9, 10, 11, 12, 13, 14, 15, 16, 17, 18, 19, 20]), (wsX50, [0, 1, 2, 3, 4, 5, 6, 7, 8, 9, 10, 11, 12, 13, 14, 15, 16, 17, 18, 19, 20, 21, 22, 23, 24, 25, 26, 27, 28, 29])] (gk_c mi_wsX5_summary_wsX5_summary_r1 (gk_c mi_wsX5_summary_wsX5_summary_r2 (gk_c mi_wsX5_summary_wsX5_summary_r1 (gk_c mi_wsX5_summary_wsX5_summary_r2 (gk_c mi_wsX5_summary_wsX5_summary_r3 (gk_c mi_wsX5_summary_wsX50 gk_n)))))) rfl (by decide +kernel)
set_option maxRecDepth 20000 in
theorem gX5_summary_X5_sums : GoodIn wsX5_summary (wsV RX5 171 RX5 yX5_sums wsX5_sums) := goodIn_app (goodIn_k _ [(wsX5_summary_r1, [12, 13, 14, 6])] (gk_c mi_wsX5_summary_wsX5_summary_r1 gk_n) rfl (by decide +kernel)) ggX5_summary_X5_sums
theorem mi_wsX5_summary_wsX5_summary_r4 : ∀ w ∈ wsX5_summary_r4, w ∈ wsX5_summary := fun _ h => (List.mem_cons_of_mem _ (List.mem_append_left _ (List.mem_append_right _ (List.mem_append_right _ (List.mem_append_right _ h)))))
set_option maxRecDepth 20000 in
theorem ggX5_summary_X5_numbersOf : GoodIn wsX5_summary wsX5_numbersOf := goodIn_k _ [(wsX5_summary_r4, [0]), (wsX5_summary_r1, [1]), (wsX5_summary_r2, [11]), (wsX50, [0, 1, 2, 3, 4, 5, 6, 7, 8, 9, 10, 11, 12, 13, 14, 15, 16, 17, 18, 19, 20, 21, 22, 23, 24, 25, 26, 27, 28, 29])] (gk_c mi_wsX5_summary_wsX5_summary_r4 (gk_c mi_wsX5_summary_wsX5_summary_r1 (gk_c mi_wsX5_summary_wsX5_summary_r2 (gk_c mi_wsX5_summary_wsX50 gk_n)))) rfl (by decide +kernel)
set_option maxRecDepth 20000 in
theorem gX5_summary_X5_numbersOf : GoodIn wsX5_summary (wsV RX5 174 RX5 yX5_numbersOf wsX5_numbersOf) := goodIn_app (goodIn_k _ [(wsX5_summary_r3, [21, 22, 23]), (wsX5_summary_r1, [6])] (gk_c mi_wsX5_summary_wsX5_summary_r3 (gk_c mi_wsX5_summary_wsX5_summary_r1 gk_n)) rfl (by decide +kernel)) ggX5_summary_X5_numbersOf
def dt_cX5_summary_0 : List (Nat × Instr × Nat) := [(0, .aload_n 0, 1), (1, .iconst 0, 1), (2, .putfield 77, 3), (5, .aload_n 0, 1), (6, .iload_n 1, 1), (7, .iload_n 2, 1), (8, .invokevirtual 142, 3), (11, .ifCond .eq 12, 3), (14, .iload_n 3, 1), (15, .iconst 0, 1), (16, .iconst 2, 1), (17, .invokestatic 80, 3), (20, .ifCond .ne 5, 3), (23, .iconst (-1), 1), (24, .ireturn, 1), (25, .aload_n 0, 1), (26, .iload_n 1, 1), (27, .iload_n 2, 1), (28, .invokevirtual 171, 3), (31, .iload_n 3, 1), (32, .ifCond .ne 14, 3), (35, .aload_n 0, 1), (36, .getfield 17, 3), (39, .sipush 320, 3), (42, .iaload, 1), (43, .goto 26, 3), (46, .iload_n 3, 1), (47, .iconst 1, 1), (48, .if_icmp .ne 13, 3), (51, .aload_n 0, 1), (52, .sipush 320, 3), (55, .invokevirtual 174, 3), (58, .goto 11, 3), (61, .aload_n 0, 1), (62, .getfield 20, 3), (65, .sipush 320, 3), (68, .iaload, 1), (69, .ireturn, 1)]
theorem da_cX5_summary_0 : dk_all cX5_summary dt_cX5_summary_0 = true := by decide +kernel
theorem dX5_summary_0 : decode cX5_summary 0 = .ok (.aload_n 0, 1) := dk_get _ da_cX5_summary_0 0 _ _ _ rfl
theorem dX5_summary_1 : decode cX5_summary 1 = .ok (.iconst 0, 1) := dk_get _ da_cX5_summary_0 1 _ _ _ rfl
theorem dX5_summary_2 : decode cX5_summary 2 = .ok (.putfield 77, 3) := dk_get _ da_cX5_summary_0 2 _ _ _ rfl
theorem dX5_summary_5 : decode cX5_summary 5 = .ok (.aload_n 0, 1) := dk_get _ da_cX5_summary_0 3 _ _ _ rfl
theorem dX5_summary_6 : decode cX5_summary 6 = .ok (.iload_n 1, 1) := dk_get _ da_cX5_summary_0 4 _ _ _ rfl
theorem dX5_summary_7 : decode cX5_summary 7 = .ok (.iload_n 2, 1) := dk_get _ da_cX5_summary_0 5 _ _ _ rfl
theorem dX5_summary_8 : decode cX5_summary 8 = .ok (.invokevirtual 142, 3) := dk_get _ da_cX5_summary_0 6 _ _ _ rfl
theorem dX5_summary_11 : decode cX5_summary 11 = .ok (.ifCond .eq 12, 3) := dk_get _ da_cX5_summary_0 7 _ _ _ rfl
theorem dX5_summary_14 : decode cX5_summary 14 = .ok (.iload_n 3, 1) := dk_get _ da_cX5_summary_0 8 _ _ _ rfl
theorem dX5_summary_15 : decode cX5_summary 15 = .ok (.iconst 0, 1) := dk_get _ da_cX5_summary_0 9 _ _ _ rfl
theorem dX5_summary_16 : decode cX5_summary 16 = .ok (.iconst 2, 1) := dk_get _ da_cX5_summary_0 10 _ _ _ rfl
theorem dX5_summary_17 : decode cX5_summary 17 = .ok (.invokestatic 80, 3) := dk_get _ da_cX5_summary_0 11 _ _ _ rfl
theorem dX5_summary_20 : decode cX5_summary 20 = .ok (.ifCond .ne 5, 3) := dk_get _ da_cX5_summary_0 12 _ _ _ rfl
theorem dX5_summary_23 : decode cX5_summary 23 = .ok (.iconst (-1), 1) := dk_get _ da_cX5_summary_0 13 _ _ _ rfl
theorem dX5_summary_24 : decode cX5_summary 24 = .ok (.ireturn, 1) := dk_get _ da_cX5_summary_0 14 _ _ _ rfl
theorem dX5_summary_25 : decode cX5_summary 25 = .ok (.aload_n 0, 1) := dk_get _ da_cX5_summary_0 15 _ _ _ rfl
theorem dX5_summary_26 : decode cX5_summary 26 = .ok (.iload_n 1, 1) := dk_get _ da_cX5_summary_0 16 _ _ _ rfl
theorem dX5_summary_27 : decode cX5_summary 27 = .ok (.iload_n 2, 1) := dk_get _ da_cX5_summary_0 17 _ _ _ rfl
theorem dX5_summary_28 : decode cX5_summary 28 = .ok (.invokevirtual 171, 3) := dk_get _ da_cX5_summary_0 18 _ _ _ rfl
theorem dX5_summary_31 : decode cX5_summary 31 = .ok (.iload_n 3, 1) := dk_get _ da_cX5_summary_0 19 _ _ _ rfl
theorem dX5_summary_32 : decode cX5_summary 32 = .ok (.ifCond .ne 14, 3) := dk_get _ da_cX5_summary_0 20 _ _ _ rfl
theorem dX5_summary_35 : decode cX5_summary 35 = .ok (.aload_n 0, 1) := dk_get _ da_cX5_summary_0 21 _ _ _ rfl
theorem dX5_summary_36 : decode cX5_summary 36 = .ok (.getfield 17, 3) := dk_get _ da_cX5_summary_0 22 _ _ _ rfl
theorem dX5_summary_39 : decode cX5_summary 39 = .ok (.sipush 320, 3) := dk_get _ da_cX5_summary_0 23 _ _ _ rfl
theorem dX5_summary_42 : decode cX5_summary 42 = .ok (.iaload, 1) := dk_get _ da_cX5_summary_0 24 _ _ _ rfl
theorem dX5_summary_43 : decode cX5_summary 43 = .ok (.goto 26, 3) := dk_get _ da_cX5_summary_0 25 _ _ _ rfl
theorem dX5_summary_46 : decode cX5_summary 46 = .ok (.iload_n 3, 1) := dk_get _ da_cX5_summary_0 26 _ _ _ rfl
theorem dX5_summary_47 : decode cX5_summary 47 = .ok (.iconst 1, 1) := dk_get _ da_cX5_summary_0 27 _ _ _ rfl
theorem dX5_summary_48 : decode cX5_summary 48 = .ok (.if_icmp .ne 13, 3) := dk_get _ da_cX5_summary_0 28 _ _ _ rfl
theorem dX5_summary_51 : decode cX5_summary 51 = .ok (.aload_n 0, 1) := dk_get _ da_cX5_summary_0 29 _ _ _ rfl
theorem dX5_summary_52 : decode cX5_summary 52 = .ok (.sipush 320, 3) := dk_get _ da_cX5_summary_0 30 _ _ _ rfl
theorem dX5_summary_55 : decode cX5_summary 55 = .ok (.invokevirtual 174, 3) := dk_get _ da_cX5_summary_0 31 _ _ _ rfl
theorem dX5_summary_58 : decode cX5_summary 58 = .ok (.goto 11, 3) := dk_get _ da_cX5_summary_0 32 _ _ _ rfl
theorem dX5_summary_61 : decode cX5_summary 61 = .ok (.aload_n 0, 1) := dk_get _ da_cX5_summary_0 33 _ _ _ rfl
theorem dX5_summary_62 : decode cX5_summary 62 = .ok (.getfield 20, 3) := dk_get _ da_cX5_summary_0 34 _ _ _ rfl
theorem dX5_summary_65 : decode cX5_summary 65 = .ok (.sipush 320, 3) := dk_get _ da_cX5_summary_0 35 _ _ _ rfl
theorem dX5_summary_68 : decode cX5_summary 68 = .ok (.iaload, 1) := dk_get _ da_cX5_summary_0 36 _ _ _ rfl
theorem dX5_summary_69 : decode cX5_summary 69 = .ok (.ireturn, 1) := dk_get _ da_cX5_summary_0 37 _ _ _ rfl
theorem mi_wsX5_candidate_wsX5_candidate_r1 : ∀ w ∈ wsX5_candidate_r1, w ∈ wsX5_candidate := fun _ h => (List.mem_cons_of_mem _ (List.mem_append_left _ (List.mem_append_left _ h)))
theorem mi_wsX5_candidate_wsX50 : ∀ w ∈ wsX50, w ∈ wsX5_candidate := fun _ h => (List.mem_cons_of_mem _ (List.mem_append_right _ h))
set_option maxRecDepth 20000 in
theorem ggX5_candidate_X5_isRange : GoodIn wsX5_candidate wsX5_isRange := goodIn_k _ [(wsX5_candidate_r1, [8, 9]), (wsX50, [0, 1, 2, 3, 4, 5, 6, 7, 8, 9, 10, 11, 12, 13, 14, 15, 16, 17, 18, 19, 20, 21, 22, 23, 24, 25, 26, 27, 28, 29])] (gk_c mi_wsX5_candidate_wsX5_candidate_r1 (gk_c mi_wsX5_candidate_wsX50 gk_n)) rfl (by decide +kernel)
set_option maxRecDepth 20000 in
theorem gX5_candidate_X5_isRange : GoodIn wsX5_candidate (wsV RX5 142 RX5 yX5_isRange wsX5_isRange) := goodIn_app (goodIn_k _ [(wsX5_candidate_r1, [4, 5, 6, 7])] (gk_c mi_wsX5_candidate_wsX5_candidate_r1 gk_n) rfl (by decide +kernel)) ggX5_candidate_X5_isRange
set_option maxRecDepth 20000 in
theorem ggX5_candidate_X5_within : GoodIn wsX5_candidate wsX5_within := goodIn_k _ [(wsX5_candidate_r1, [12])] (gk_c mi_wsX5_candidate_wsX5_candidate_r1 gk_n) rfl (by decide +kernel)
set_option maxRecDepth 20000 in
theorem gX5_candidate_X5_within : GoodIn wsX5_candidate (va_wsS RX5 80 yX5_within wsX5_within) := goodIn_app (goodIn_k _ [(wsX5_candidate_r1, [10, 11, 7])] (gk_c mi_wsX5_candidate_wsX5_candidate_r1 gk_n) rfl (by decide +kernel)) ggX5_candidate_X5_within
theorem mi_wsX5_candidate_wsX5_candidate_r2 : ∀ w ∈ wsX5_candidate_r2, w ∈ wsX5_candidate := fun _ h => (List.mem_cons_of_mem _ (List.mem_append_left _ (List.mem_append_right _ (List.mem_append_left _ h))))
theorem mi_wsX5_candidate_wsX5_candidate_r3 : ∀ w ∈ wsX5_candidate_r3, w ∈ wsX5_candidate := fun _ h => (List.mem_cons_of_mem _ (List.mem_append_left _ (List.mem_append_right _ (List.mem_append_right _ (List.mem_append_left _ h)))))
set_option maxRecDepth 20000 in
theorem ggX5_candidate_X5_sums : GoodIn wsX5_candidate wsX5_sums := goodIn_k _ [(wsX5_candidate_r1, [16, 17, 18, 19, 20, 7, 21, 22, 9, 23]), (wsX5_candidate_r2, [0, 1, 2, 3, 4, 5, 6, 7, 8, 9]), (wsX5_candidate_r1, [1]), (wsX5_candidate_r2, [10, 11]), (wsX5_candidate_r1, [2, 3]), (wsX5_candidate_r2, [12, 13, 14, 15, 16, 17, 18, 19, 20, 21, 22, 23]), (wsX5_candidate_r3, [0, 1, 2, 3, 4, 5, 6, 7, 8, 9, 10, 11, 12, 13, 14, 15, 16, 17, 18, 19, 20]), (wsX50, [0, 1, 2, 3, 4, 5, 6, 7, 8, 9, 10, 11, 12, 13, 14, 15, 16, 17, 18, 19, 20, 21, 22, 23, 24, 25, 26, 27, 28, 29])] (gk_c mi_wsX5_candidate_wsX5_candidate_r1 (gk_c mi_wsX5_candidate_wsX5_candidate_r2 (gk_c mi_wsX5_candidate_wsX5_candidate_r1 (gk_c mi_wsX5_candidate_wsX5_candidate_r2 (gk_c mi_wsX5_candidate_wsX5_candidate_r1 (gk_c mi_wsX5_candidate_wsX5_candidate_r2 (gk_c mi_wsX5_candidate_wsX5_candidate_r3 (gk_c mi_wsX5_candidate_wsX50 gk_n)))))))) rfl (by decide +kernel)
set_option maxRecDepth 20000 in
theorem gX5_candidate_X5_sums : GoodIn wsX5_candidate (wsV RX5 171 RX5 yX5_sums wsX5_sums) := goodIn_app (goodIn_k _ [(wsX5_candidate_r1, [13, 14, 15, 7])] (gk_c mi_wsX5_candidate_wsX5_candidate_r1 gk_n) rfl (by decide +kernel)) ggX5_candidate_X5_sums
theorem mi_wsX5_candidate_wsX5_candidate_r4 : ∀ w ∈ wsX5_candidate_r4, w ∈ wsX5_candidate := fun _ h => (List.mem_cons_of_mem _ (List.mem_append_left _ (List.mem_append_right _ (List.mem_append_right _ (List.mem_append_right _ h)))))
set_option maxRecDepth 20000 in
theorem ggX5_candidate_X5_times : GoodIn wsX5_candidate wsX5_times := goodIn_k _ [(wsX5_candidate_r4, [0]), (wsX5_candidate_r2, [5]), (wsX50, [0, 1, 2, 3, 4, 5, 6, 7, 8, 9, 10, 11, 12, 13, 14, 15, 16, 17, 18, 19, 20, 21, 22, 23, 24, 25, 26, 27, 28, 29])] (gk_c mi_wsX5_candidate_wsX5_candidate_r4 (gk_c mi_wsX5_candidate_wsX5_candidate_r2 (gk_c mi_wsX5_candidate_wsX50 gk_n))) rfl (by decide +kernel)
set_option maxRecDepth 20000 in
theorem gX5_candidate_X5_times : GoodIn wsX5_candidate (wsV RX5 149 RX5 yX5_times wsX5_times) := goodIn_app (goodIn_k _ [(wsX5_candidate_r3, [21, 22, 23]), (wsX5_candidate_r1, [7])] (gk_c mi_wsX5_candidate_wsX5_candidate_r3 (gk_c mi_wsX5_candidate_wsX5_candidate_r1 gk_n)) rfl (by decide +kernel)) ggX5_candidate_X5_times
def dt_cX5_candidate_0 : List (Nat × Instr × Nat) := [(0, .aload_n 0, 1), (1, .iconst 1, 1), (2, .putfield 77, 3), (5, .aload_n 0, 1), (6, .iload_n 1, 1), (7, .iload_n 2, 1), (8, .invokevirtual 142, 3), (11, .ifCond .eq 13, 3), (14, .iload 4, 2), (16, .iconst 0, 1), (17, .iconst 2, 1), (18, .invokestatic 80, 3), (21, .ifCond .ne 5, 3), (24, .iconst 0, 1), (25, .ireturn, 1), (26, .aload_n 0, 1), (27, .iload_n 1, 1), (28, .iload_n 2, 1), (29, .invokevirtual 171, 3), (32, .iload_n 3, 1), (33, .iconst 0, 1), (34, .aload_n 0, 1), (35, .getfield 17, 3), (38, .sipush 320, 3), (41, .iaload, 1), (42, .iconst 1, 1), (43, .isub, 1), (44, .invokestatic 80, 3), (47, .ifCond .ne 5, 3), (50, .iconst 0, 1), (51, .ireturn, 1), (52, .aload_n 0, 1), (53, .iconst 0, 1), (54, .putfield 77, 3), (57, .aload_n 0, 1), (58, .getfield 26, 3), (61, .sipush 1920, 3), (64, .iload_n 3, 1), (65, .iadd, 1), (66, .iaload, 1), (67, .istore 5, 2), (69, .iload 4, 2), (71, .ifCond .ne 8, 3), (74, .iload 5, 2), (76, .goto 30, 3), (79, .iload 4, 2), (81, .iconst 1, 1), (82, .if_icmp .ne 16, 3), (85, .aload_n 0, 1), (86, .getfield 29, 3), (89, .sipush 1920, 3), (92, .iload_n 3, 1), (93, .iadd, 1), (94, .iaload, 1), (95, .goto 11, 3), (98, .aload_n 0, 1), (99, .iload 5, 2), (101, .iload_n 1, 1), (102, .iload_n 2, 1), (103, .invokevirtual 149, 3)]
theorem da_cX5_candidate_0 : dk_all cX5_candidate dt_cX5_candidate_0 = true := by decide +kernel
theorem dX5_candidate_0 : decode cX5_candidate 0 = .ok (.aload_n 0, 1) := dk_get _ da_cX5_candidate_0 0 _ _ _ rfl
theorem dX5_candidate_1 : decode cX5_candidate 1 = .ok (.iconst 1, 1) := dk_get _ da_cX5_candidate_0 1 _ _ _ rfl
theorem dX5_candidate_2 : decode cX5_candidate 2 = .ok (.putfield 77, 3) := dk_get _ da_cX5_candidate_0 2 _ _ _ rfl
theorem dX5_candidate_5 : decode cX5_candidate 5 = .ok (.aload_n 0, 1) := dk_get _ da_cX5_candidate_0 3 _ _ _ rfl
theorem dX5_candidate_6 : decode cX5_candidate 6 = .ok (.iload_n 1, 1) := dk_get _ da_cX5_candidate_0 4 _ _ _ rfl
theorem dX5_candidate_7 : decode cX5_candidate 7 = .ok (.iload_n 2, 1) := dk_get _ da_cX5_candidate_0 5 _ _ _ rfl
theorem dX5_candidate_8 : decode cX5_candidate 8 = .ok (.invokevirtual 142, 3) := dk_get _ da_cX5_candidate_0 6 _ _ _ rfl
theorem dX5_candidate_11 : decode cX5_candidate 11 = .ok (.ifCond .eq 13, 3) := dk_get _ da_cX5_candidate_0 7 _ _ _ rfl
theorem dX5_candidate_14 : decode cX5_candidate 14 = .ok (.iload 4, 2) := dk_get _ da_cX5_candidate_0 8 _ _ _ rfl
theorem dX5_candidate_16 : decode cX5_candidate 16 = .ok (.iconst 0, 1) := dk_get _ da_cX5_candidate_0 9 _ _ _ rfl
theorem dX5_candidate_17 : decode cX5_candidate 17 = .ok (.iconst 2, 1) := dk_get _ da_cX5_candidate_0 10 _ _ _ rfl
theorem dX5_candidate_18 : decode cX5_candidate 18 = .ok (.invokestatic 80, 3) := dk_get _ da_cX5_candidate_0 11 _ _ _ rfl
theorem dX5_candidate_21 : decode cX5_candidate 21 = .ok (.ifCond .ne 5, 3) := dk_get _ da_cX5_candidate_0 12 _ _ _ rfl
theorem dX5_candidate_24 : decode cX5_candidate 24 = .ok (.iconst 0, 1) := dk_get _ da_cX5_candidate_0 13 _ _ _ rfl
theorem dX5_candidate_25 : decode cX5_candidate 25 = .ok (.ireturn, 1) := dk_get _ da_cX5_candidate_0 14 _ _ _ rfl
theorem dX5_candidate_26 : decode cX5_candidate 26 = .ok (.aload_n 0, 1) := dk_get _ da_cX5_candidate_0 15 _ _ _ rfl
theorem dX5_candidate_27 : decode cX5_candidate 27 = .ok (.iload_n 1, 1) := dk_get _ da_cX5_candidate_0 16 _ _ _ rfl
theorem dX5_candidate_28 : decode cX5_candidate 28 = .ok (.iload_n 2, 1) := dk_get _ da_cX5_candidate_0 17 _ _ _ rfl
theorem dX5_candidate_29 : decode cX5_candidate 29 = .ok (.invokevirtual 171, 3) := dk_get _ da_cX5_candidate_0 18 _ _ _ rfl
theorem dX5_candidate_32 : decode cX5_candidate 32 = .ok (.iload_n 3, 1) := dk_get _ da_cX5_candidate_0 19 _ _ _ rfl
theorem dX5_candidate_33 : decode cX5_candidate 33 = .ok (.iconst 0, 1) := dk_get _ da_cX5_candidate_0 20 _ _ _ rfl
theorem dX5_candidate_34 : decode cX5_candidate 34 = .ok (.aload_n 0, 1) := dk_get _ da_cX5_candidate_0 21 _ _ _ rfl
theorem dX5_candidate_35 : decode cX5_candidate 35 = .ok (.getfield 17, 3) := dk_get _ da_cX5_candidate_0 22 _ _ _ rfl
theorem dX5_candidate_38 : decode cX5_candidate 38 = .ok (.sipush 320, 3) := dk_get _ da_cX5_candidate_0 23 _ _ _ rfl
theorem dX5_candidate_41 : decode cX5_candidate 41 = .ok (.iaload, 1) := dk_get _ da_cX5_candidate_0 24 _ _ _ rfl
theorem dX5_candidate_42 : decode cX5_candidate 42 = .ok (.iconst 1, 1) := dk_get _ da_cX5_candidate_0 25 _ _ _ rfl
theorem dX5_candidate_43 : decode cX5_candidate 43 = .ok (.isub, 1) := dk_get _ da_cX5_candidate_0 26 _ _ _ rfl
theorem dX5_candidate_44 : decode cX5_candidate 44 = .ok (.invokestatic 80, 3) := dk_get _ da_cX5_candidate_0 27 _ _ _ rfl
theorem dX5_candidate_47 : decode cX5_candidate 47 = .ok (.ifCond .ne 5, 3) := dk_get _ da_cX5_candidate_0 28 _ _ _ rfl
theorem dX5_candidate_50 : decode cX5_candidate 50 = .ok (.iconst 0, 1) := dk_get _ da_cX5_candidate_0 29 _ _ _ rfl
theorem dX5_candidate_51 : decode cX5_candidate 51 = .ok (.ireturn, 1) := dk_get _ da_cX5_candidate_0 30 _ _ _ rfl
theorem dX5_candidate_52 : decode cX5_candidate 52 = .ok (.aload_n 0, 1) := dk_get _ da_cX5_candidate_0 31 _ _ _ rfl
theorem dX5_candidate_53 : decode cX5_candidate 53 = .ok (.iconst 0, 1) := dk_get _ da_cX5_candidate_0 32 _ _ _ rfl
theorem dX5_candidate_54 : decode cX5_candidate 54 = .ok (.putfield 77, 3) := dk_get _ da_cX5_candidate_0 33 _ _ _ rfl
theorem dX5_candidate_57 : decode cX5_candidate 57 = .ok (.aload_n 0, 1) := dk_get _ da_cX5_candidate_0 34 _ _ _ rfl
theorem dX5_candidate_58 : decode cX5_candidate 58 = .ok (.getfield 26, 3) := dk_get _ da_cX5_candidate_0 35 _ _ _ rfl
theorem dX5_candidate_61 : decode cX5_candidate 61 = .ok (.sipush 1920, 3) := dk_get _ da_cX5_candidate_0 36 _ _ _ rfl
theorem dX5_candidate_64 : decode cX5_candidate 64 = .ok (.iload_n 3, 1) := dk_get _ da_cX5_candidate_0 37 _ _ _ rfl
theorem dX5_candidate_65 : decode cX5_candidate 65 = .ok (.iadd, 1) := dk_get _ da_cX5_candidate_0 38 _ _ _ rfl
theorem dX5_candidate_66 : decode cX5_candidate 66 = .ok (.iaload, 1) := dk_get _ da_cX5_candidate_0 39 _ _ _ rfl
theorem dX5_candidate_67 : decode cX5_candidate 67 = .ok (.istore 5, 2) := dk_get _ da_cX5_candidate_0 40 _ _ _ rfl
theorem dX5_candidate_69 : decode cX5_candidate 69 = .ok (.iload 4, 2) := dk_get _ da_cX5_candidate_0 41 _ _ _ rfl
theorem dX5_candidate_71 : decode cX5_candidate 71 = .ok (.ifCond .ne 8, 3) := dk_get _ da_cX5_candidate_0 42 _ _ _ rfl
theorem dX5_candidate_74 : decode cX5_candidate 74 = .ok (.iload 5, 2) := dk_get _ da_cX5_candidate_0 43 _ _ _ rfl
theorem dX5_candidate_76 : decode cX5_candidate 76 = .ok (.goto 30, 3) := dk_get _ da_cX5_candidate_0 44 _ _ _ rfl
theorem dX5_candidate_79 : decode cX5_candidate 79 = .ok (.iload 4, 2) := dk_get _ da_cX5_candidate_0 45 _ _ _ rfl
theorem dX5_candidate_81 : decode cX5_candidate 81 = .ok (.iconst 1, 1) := dk_get _ da_cX5_candidate_0 46 _ _ _ rfl
theorem dX5_candidate_82 : decode cX5_candidate 82 = .ok (.if_icmp .ne 16, 3) := dk_get _ da_cX5_candidate_0 47 _ _ _ rfl
theorem dX5_candidate_85 : decode cX5_candidate 85 = .ok (.aload_n 0, 1) := dk_get _ da_cX5_candidate_0 48 _ _ _ rfl
theorem dX5_candidate_86 : decode cX5_candidate 86 = .ok (.getfield 29, 3) := dk_get _ da_cX5_candidate_0 49 _ _ _ rfl
theorem dX5_candidate_89 : decode cX5_candidate 89 = .ok (.sipush 1920, 3) := dk_get _ da_cX5_candidate_0 50 _ _ _ rfl
theorem dX5_candidate_92 : decode cX5_candidate 92 = .ok (.iload_n 3, 1) := dk_get _ da_cX5_candidate_0 51 _ _ _ rfl
theorem dX5_candidate_93 : decode cX5_candidate 93 = .ok (.iadd, 1) := dk_get _ da_cX5_candidate_0 52 _ _ _ rfl
theorem dX5_candidate_94 : decode cX5_candidate 94 = .ok (.iaload, 1) := dk_get _ da_cX5_candidate_0 53 _ _ _ rfl
theorem dX5_candidate_95 : decode cX5_candidate 95 = .ok (.goto 11, 3) := dk_get _ da_cX5_candidate_0 54 _ _ _ rfl
theorem dX5_candidate_98 : decode cX5_candidate 98 = .ok (.aload_n 0, 1) := dk_get _ da_cX5_candidate_0 55 _ _ _ rfl
theorem dX5_candidate_99 : decode cX5_candidate 99 = .ok (.iload 5, 2) := dk_get _ da_cX5_candidate_0 56 _ _ _ rfl
theorem dX5_candidate_101 : decode cX5_candidate 101 = .ok (.iload_n 1, 1) := dk_get _ da_cX5_candidate_0 57 _ _ _ rfl
theorem dX5_candidate_102 : decode cX5_candidate 102 = .ok (.iload_n 2, 1) := dk_get _ da_cX5_candidate_0 58 _ _ _ rfl
theorem dX5_candidate_103 : decode cX5_candidate 103 = .ok (.invokevirtual 149, 3) := dk_get _ da_cX5_candidate_0 59 _ _ _ rfl
def dt_cX5_candidate_1 : List (Nat × Instr × Nat) := [(106, .ireturn, 1)]
theorem da_cX5_candidate_1 : dk_all cX5_candidate dt_cX5_candidate_1 = true := by decide +kernel
theorem dX5_candidate_106 : decode cX5_candidate 106 = .ok (.ireturn, 1) := dk_get _ da_cX5_candidate_1 0 _ _ _ rfl
theorem mi_wsX5_lost_wsX5_lost_r1 : ∀ w ∈ wsX5_lost_r1, w ∈ wsX5_lost := fun _ h => (List.mem_cons_of_mem _ (List.mem_append_left _ (List.mem_append_left _ h)))
set_option maxRecDepth 20000 in
theorem ggX5_lost_X5_isValue : GoodIn wsX5_lost wsX5_isValue := goodIn_k _ [(wsX5_lost_r1, [4, 5, 6, 3, 7])] (gk_c mi_wsX5_lost_wsX5_lost_r1 gk_n) rfl (by decide +kernel)
set_option maxRecDepth 20000 in
theorem gX5_lost_X5_isValue : GoodIn wsX5_lost (va_wsS RX5 132 yX5_isValue wsX5_isValue) := goodIn_app (goodIn_k _ [(wsX5_lost_r1, [1, 2, 3])] (gk_c mi_wsX5_lost_wsX5_lost_r1 gk_n) rfl (by decide +kernel)) ggX5_lost_X5_isValue
theorem mi_wsX5_lost_wsX50 : ∀ w ∈ wsX50, w ∈ wsX5_lost := fun _ h => (List.mem_cons_of_mem _ (List.mem_append_right _ h))
set_option maxRecDepth 20000 in
theorem ggX5_lost_X5_isRange : GoodIn wsX5_lost wsX5_isRange := goodIn_k _ [(wsX5_lost_r1, [11, 12]), (wsX50, [0, 1, 2, 3, 4, 5, 6, 7, 8, 9, 10, 11, 12, 13, 14, 15, 16, 17, 18, 19, 20, 21, 22, 23, 24, 25, 26, 27, 28, 29])] (gk_c mi_wsX5_lost_wsX5_lost_r1 (gk_c mi_wsX5_lost_wsX50 gk_n)) rfl (by decide +kernel)
set_option maxRecDepth 20000 in
theorem gX5_lost_X5_isRange : GoodIn wsX5_lost (wsV RX5 142 RX5 yX5_isRange wsX5_isRange) := goodIn_app (goodIn_k _ [(wsX5_lost_r1, [8, 9, 10, 3])] (gk_c mi_wsX5_lost_wsX5_lost_r1 gk_n) rfl (by decide +kernel)) ggX5_lost_X5_isRange
theorem mi_wsX5_lost_wsX5_lost_r2 : ∀ w ∈ wsX5_lost_r2, w ∈ wsX5_lost := fun _ h => (List.mem_cons_of_mem _ (List.mem_append_left _ (List.mem_append_right _ (List.mem_append_left _ h))))
theorem mi_wsX5_lost_wsX5_lost_r3 : ∀ w ∈ wsX5_lost_r3, w ∈ wsX5_lost := fun _ h => (List.mem_cons_of_mem _ (List.mem_append_left _ (List.mem_append_right _ (List.mem_append_right _ (List.mem_append_left _ h)))))
set_option maxRecDepth 20000 in
theorem ggX5_lost_X5_sums : GoodIn wsX5_lost wsX5_sums := goodIn_k _ [(wsX5_lost_r1, [16, 17, 18, 19, 20, 3, 21, 22, 12, 23]), (wsX5_lost_r2, [0, 1, 2, 3, 4, 5, 6, 7, 8, 9, 10, 11, 12, 13, 14, 15, 16, 17, 18, 19, 20, 21, 22, 23]), (wsX5_lost_r3, [0, 1, 2, 3, 4, 5, 6, 7, 8, 9, 10, 11, 12, 13, 14, 15, 16, 17, 18, 19, 20, 21, 22, 23]), (wsX50, [0, 1, 2, 3, 4, 5, 6, 7, 8, 9, 10, 11, 12, 13, 14, 15, 16, 17, 18, 19, 20, 21, 22, 23, 24, 25, 26, 27, 28, 29])] (gk_c mi_wsX5_lost_wsX5_lost_r1 (gk_c mi_wsX5_lost_wsX5_lost_r2 (gk_c mi_wsX5_lost_wsX5_lost_r3 (gk_c mi_wsX5_lost_wsX50 gk_n)))) rfl (by decide +kernel)
set_option maxRecDepth 20000 in
theorem gX5_lost_X5_sums : GoodIn wsX5_lost (wsV RX5 171 RX5 yX5_sums wsX5_sums) := goodIn_app (goodIn_k _ [(wsX5_lost_r1, [13, 14, 15, 3])] (gk_c mi_wsX5_lost_wsX5_lost_r1 gk_n) rfl (by decide +kernel)) ggX5_lost_X5_sums
theorem mi_wsX5_lost_wsX5_lost_r4 : ∀ w ∈ wsX5_lost_r4, w ∈ wsX5_lost := fun _ h => (List.mem_cons_of_mem _ (List.mem_append_left _ (List.mem_append_right _ (List.mem_append_right _ (List.mem_append_right _ h)))))
set_option maxRecDepth 20000 in
theorem ggX5_lost_X5_times : GoodIn wsX5_lost wsX5_times := goodIn_k _ [(wsX5_lost_r4, [3]), (wsX5_lost_r2, [5]), (wsX50, [0, 1, 2, 3, 4, 5, 6, 7, 8, 9, 10, 11, 12, 13, 14, 15, 16, 17, 18, 19, 20, 21, 22, 23, 24, 25, 26, 27, 28, 29])] (gk_c mi_wsX5_lost_wsX5_lost_r4 (gk_c mi_wsX5_lost_wsX5_lost_r2 (gk_c mi_wsX5_lost_wsX50 gk_n))) rfl (by decide +kernel)
set_option maxRecDepth 20000 in
theorem gX5_lost_X5_times : GoodIn wsX5_lost (wsV RX5 149 RX5 yX5_times wsX5_times) := goodIn_app (goodIn_k _ [(wsX5_lost_r4, [0, 1, 2]), (wsX5_lost_r1, [3])] (gk_c mi_wsX5_lost_wsX5_lost_r4 (gk_c mi_wsX5_lost_wsX5_lost_r1 gk_n)) rfl (by decide +kernel)) ggX5_lost_X5_times
set_option maxRecDepth 20000 in
theorem ggX5_lost_X5_numberOf : GoodIn wsX5_lost wsX5_numberOf := goodIn_k _ [(wsX5_lost_r4, [7]), (wsX5_lost_r2, [10, 13, 14]), (wsX50, [0, 1, 2, 3, 4, 5, 6, 7, 8, 9, 10, 11, 12, 13, 14, 15, 16, 17, 18, 19, 20, 21, 22, 23, 24, 25, 26, 27, 28, 29])] (gk_c mi_wsX5_lost_wsX5_lost_r4 (gk_c mi_wsX5_lost_wsX5_lost_r2 (gk_c mi_wsX5_lost_wsX50 gk_n))) rfl (by decide +kernel)
set_option maxRecDepth 20000 in
theorem gX5_lost_X5_numberOf : GoodIn wsX5_lost (wsV RX5 165 RX5 yX5_numberOf wsX5_numberOf) := goodIn_app (goodIn_k _ [(wsX5_lost_r4, [4, 5, 6]), (wsX5_lost_r1, [3])] (gk_c mi_wsX5_lost_wsX5_lost_r4 (gk_c mi_wsX5_lost_wsX5_lost_r1 gk_n)) rfl (by decide +kernel)) ggX5_lost_X5_numberOf
def dt_cX5_lost_0 : List (Nat × Instr × Nat) := [(0, .aload_n 0, 1), (1, .iconst 0, 1), (2, .putfield 77, 3), (5, .iload_n 1, 1), (6, .invokestatic 132, 3), (9, .ifCond .eq 12, 3), (12, .aload_n 0, 1), (13, .iload_n 2, 1), (14, .iload_n 3, 1), (15, .invokevirtual 142, 3), (18, .ifCond .ne 5, 3), (21, .iconst (-1), 1), (22, .ireturn, 1), (23, .aload_n 0, 1), (24, .iload_n 2, 1), (25, .iload_n 3, 1), (26, .invokevirtual 171, 3), (29, .aload_n 0, 1), (30, .iload_n 1, 1), (31, .iload_n 2, 1), (32, .iload_n 3, 1), (33, .invokevirtual 149, 3), (36, .aload_n 0, 1), (37, .sipush 320, 3), (40, .iload_n 1, 1), (41, .invokevirtual 165, 3), (44, .isub, 1), (45, .ireturn, 1)]
theorem da_cX5_lost_0 : dk_all cX5_lost dt_cX5_lost_0 = true := by decide +kernel
theorem dX5_lost_0 : decode cX5_lost 0 = .ok (.aload_n 0, 1) := dk_get _ da_cX5_lost_0 0 _ _ _ rfl
theorem dX5_lost_1 : decode cX5_lost 1 = .ok (.iconst 0, 1) := dk_get _ da_cX5_lost_0 1 _ _ _ rfl
theorem dX5_lost_2 : decode cX5_lost 2 = .ok (.putfield 77, 3) := dk_get _ da_cX5_lost_0 2 _ _ _ rfl
theorem dX5_lost_5 : decode cX5_lost 5 = .ok (.iload_n 1, 1) := dk_get _ da_cX5_lost_0 3 _ _ _ rfl
theorem dX5_lost_6 : decode cX5_lost 6 = .ok (.invokestatic 132, 3) := dk_get _ da_cX5_lost_0 4 _ _ _ rfl
theorem dX5_lost_9 : decode cX5_lost 9 = .ok (.ifCond .eq 12, 3) := dk_get _ da_cX5_lost_0 5 _ _ _ rfl
theorem dX5_lost_12 : decode cX5_lost 12 = .ok (.aload_n 0, 1) := dk_get _ da_cX5_lost_0 6 _ _ _ rfl
theorem dX5_lost_13 : decode cX5_lost 13 = .ok (.iload_n 2, 1) := dk_get _ da_cX5_lost_0 7 _ _ _ rfl
theorem dX5_lost_14 : decode cX5_lost 14 = .ok (.iload_n 3, 1) := dk_get _ da_cX5_lost_0 8 _ _ _ rfl
theorem dX5_lost_15 : decode cX5_lost 15 = .ok (.invokevirtual 142, 3) := dk_get _ da_cX5_lost_0 9 _ _ _ rfl
theorem dX5_lost_18 : decode cX5_lost 18 = .ok (.ifCond .ne 5, 3) := dk_get _ da_cX5_lost_0 10 _ _ _ rfl
theorem dX5_lost_21 : decode cX5_lost 21 = .ok (.iconst (-1), 1) := dk_get _ da_cX5_lost_0 11 _ _ _ rfl
theorem dX5_lost_22 : decode cX5_lost 22 = .ok (.ireturn, 1) := dk_get _ da_cX5_lost_0 12 _ _ _ rfl
theorem dX5_lost_23 : decode cX5_lost 23 = .ok (.aload_n 0, 1) := dk_get _ da_cX5_lost_0 13 _ _ _ rfl
theorem dX5_lost_24 : decode cX5_lost 24 = .ok (.iload_n 2, 1) := dk_get _ da_cX5_lost_0 14 _ _ _ rfl
theorem dX5_lost_25 : decode cX5_lost 25 = .ok (.iload_n 3, 1) := dk_get _ da_cX5_lost_0 15 _ _ _ rfl
theorem dX5_lost_26 : decode cX5_lost 26 = .ok (.invokevirtual 171, 3) := dk_get _ da_cX5_lost_0 16 _ _ _ rfl
theorem dX5_lost_29 : decode cX5_lost 29 = .ok (.aload_n 0, 1) := dk_get _ da_cX5_lost_0 17 _ _ _ rfl
theorem dX5_lost_30 : decode cX5_lost 30 = .ok (.iload_n 1, 1) := dk_get _ da_cX5_lost_0 18 _ _ _ rfl
theorem dX5_lost_31 : decode cX5_lost 31 = .ok (.iload_n 2, 1) := dk_get _ da_cX5_lost_0 19 _ _ _ rfl
theorem dX5_lost_32 : decode cX5_lost 32 = .ok (.iload_n 3, 1) := dk_get _ da_cX5_lost_0 20 _ _ _ rfl
theorem dX5_lost_33 : decode cX5_lost 33 = .ok (.invokevirtual 149, 3) := dk_get _ da_cX5_lost_0 21 _ _ _ rfl
theorem dX5_lost_36 : decode cX5_lost 36 = .ok (.aload_n 0, 1) := dk_get _ da_cX5_lost_0 22 _ _ _ rfl
theorem dX5_lost_37 : decode cX5_lost 37 = .ok (.sipush 320, 3) := dk_get _ da_cX5_lost_0 23 _ _ _ rfl
theorem dX5_lost_40 : decode cX5_lost 40 = .ok (.iload_n 1, 1) := dk_get _ da_cX5_lost_0 24 _ _ _ rfl
theorem dX5_lost_41 : decode cX5_lost 41 = .ok (.invokevirtual 165, 3) := dk_get _ da_cX5_lost_0 25 _ _ _ rfl
theorem dX5_lost_44 : decode cX5_lost 44 = .ok (.isub, 1) := dk_get _ da_cX5_lost_0 26 _ _ _ rfl
theorem dX5_lost_45 : decode cX5_lost 45 = .ok (.ireturn, 1) := dk_get _ da_cX5_lost_0 27 _ _ _ rfl
theorem mi_wsX5_surely_wsX5_surely_r1 : ∀ w ∈ wsX5_surely_r1, w ∈ wsX5_surely := fun _ h => (List.mem_cons_of_mem _ (List.mem_append_left _ (List.mem_append_left _ h)))
theorem mi_wsX5_surely_wsX50 : ∀ w ∈ wsX50, w ∈ wsX5_surely := fun _ h => (List.mem_cons_of_mem _ (List.mem_append_right _ h))
set_option maxRecDepth 20000 in
theorem ggX5_surely_X5_isRange : GoodIn wsX5_surely wsX5_isRange := goodIn_k _ [(wsX5_surely_r1, [10, 11]), (wsX50, [0, 1, 2, 3, 4, 5, 6, 7, 8, 9, 10, 11, 12, 13, 14, 15, 16, 17, 18, 19, 20, 21, 22, 23, 24, 25, 26, 27, 28, 29])] (gk_c mi_wsX5_surely_wsX5_surely_r1 (gk_c mi_wsX5_surely_wsX50 gk_n)) rfl (by decide +kernel)
set_option maxRecDepth 20000 in
theorem gX5_surely_X5_isRange : GoodIn wsX5_surely (wsV RX5 142 RX5 yX5_isRange wsX5_isRange) := goodIn_app (goodIn_k _ [(wsX5_surely_r1, [6, 7, 8, 9])] (gk_c mi_wsX5_surely_wsX5_surely_r1 gk_n) rfl (by decide +kernel)) ggX5_surely_X5_isRange
theorem mi_wsX5_surely_wsX5_surely_r2 : ∀ w ∈ wsX5_surely_r2, w ∈ wsX5_surely := fun _ h => (List.mem_cons_of_mem _ (List.mem_append_left _ (List.mem_append_right _ (List.mem_append_left _ h))))
theorem mi_wsX5_surely_wsX5_surely_r3 : ∀ w ∈ wsX5_surely_r3, w ∈ wsX5_surely := fun _ h => (List.mem_cons_of_mem _ (List.mem_append_left _ (List.mem_append_right _ (List.mem_append_right _ h))))
set_option maxRecDepth 20000 in
theorem ggX5_surely_X5_sums : GoodIn wsX5_surely wsX5_sums := goodIn_k _ [(wsX5_surely_r1, [15, 16, 17, 18, 19, 9, 20, 21, 11, 22, 23]), (wsX5_surely_r2, [0, 1, 2, 3, 4, 5, 6, 7, 8]), (wsX5_surely_r1, [2, 4]), (wsX5_surely_r2, [9]), (wsX5_surely_r1, [5, 3]), (wsX5_surely_r2, [10, 11, 12, 13, 14, 15, 16, 17, 18, 19, 20, 21, 22, 23]), (wsX5_surely_r3, [0, 1, 2, 3, 4, 5, 6, 7, 8, 9, 10, 11, 12, 13, 14, 15, 16, 17, 18]), (wsX50, [0, 1, 2, 3, 4, 5, 6, 7, 8, 9, 10, 11, 12, 13, 14, 15, 16, 17, 18, 19, 20, 21, 22, 23, 24, 25, 26, 27, 28, 29])] (gk_c mi_wsX5_surely_wsX5_surely_r1 (gk_c mi_wsX5_surely_wsX5_surely_r2 (gk_c mi_wsX5_surely_wsX5_surely_r1 (gk_c mi_wsX5_surely_wsX5_surely_r2 (gk_c mi_wsX5_surely_wsX5_surely_r1 (gk_c mi_wsX5_surely_wsX5_surely_r2 (gk_c mi_wsX5_surely_wsX5_surely_r3 (gk_c mi_wsX5_surely_wsX50 gk_n)))))))) rfl (by decide +kernel)
set_option maxRecDepth 20000 in
theorem gX5_surely_X5_sums : GoodIn wsX5_surely (wsV RX5 171 RX5 yX5_sums wsX5_sums) := goodIn_app (goodIn_k _ [(wsX5_surely_r1, [12, 13, 14, 9])] (gk_c mi_wsX5_surely_wsX5_surely_r1 gk_n) rfl (by decide +kernel)) ggX5_surely_X5_sums
def dt_cX5_surely_0 : List (Nat × Instr × Nat) := [(0, .aload_n 0, 1), (1, .iconst 0, 1), (2, .putfield 77, 3), (5, .aload_n 0, 1), (6, .iload_n 1, 1), (7, .iload_n 2, 1), (8, .invokevirtual 142, 3), (11, .ifCond .ne 6, 3), (14, .ldc 148, 2), (16, .ireturn, 1), (17, .aload_n 0, 1), (18, .iload_n 1, 1), (19, .iload_n 2, 1), (20, .invokevirtual 171, 3), (23, .aload_n 0, 1), (24, .getfield 17, 3), (27, .sipush 320, 3), (30, .iaload, 1), (31, .ifCond .ne 6, 3), (34, .ldc 148, 2), (36, .ireturn, 1), (37, .aload_n 0, 1), (38, .getfield 29, 3), (41, .sipush 1920, 3), (44, .iaload, 1), (45, .istore_n 3, 1), (46, .aload_n 0, 1), (47, .getfield 17, 3), (50, .sipush 320, 3), (53, .iaload, 1), (54, .iconst 1, 1), (55, .if_icmp .le 14, 3), (58, .aload_n 0, 1), (59, .getfield 29, 3), (62, .sipush 1921, 3), (65, .iaload, 1), (66, .goto 4, 3), (69, .iconst 0, 1), (70, .istore 4, 2), (72, .iload_n 3, 1), (73, .iload 4, 2), (75, .aload_n 0, 1), (76, .getfield 20, 3), (79, .sipush 320, 3), (82, .iaload, 1), (83, .iadd, 1), (84, .if_icmp .le 14, 3), (87, .aload_n 0, 1), (88, .getfield 26, 3), (91, .sipush 1920, 3), (94, .iaload, 1), (95, .goto 5, 3), (98, .ldc 148, 2), (100, .ireturn, 1)]
theorem da_cX5_surely_0 : dk_all cX5_surely dt_cX5_surely_0 = true := by decide +kernel
theorem dX5_surely_0 : decode cX5_surely 0 = .ok (.aload_n 0, 1) := dk_get _ da_cX5_surely_0 0 _ _ _ rfl
theorem dX5_surely_1 : decode cX5_surely 1 = .ok (.iconst 0, 1) := dk_get _ da_cX5_surely_0 1 _ _ _ rfl
theorem dX5_surely_2 : decode cX5_surely 2 = .ok (.putfield 77, 3) := dk_get _ da_cX5_surely_0 2 _ _ _ rfl
theorem dX5_surely_5 : decode cX5_surely 5 = .ok (.aload_n 0, 1) := dk_get _ da_cX5_surely_0 3 _ _ _ rfl
theorem dX5_surely_6 : decode cX5_surely 6 = .ok (.iload_n 1, 1) := dk_get _ da_cX5_surely_0 4 _ _ _ rfl
theorem dX5_surely_7 : decode cX5_surely 7 = .ok (.iload_n 2, 1) := dk_get _ da_cX5_surely_0 5 _ _ _ rfl
theorem dX5_surely_8 : decode cX5_surely 8 = .ok (.invokevirtual 142, 3) := dk_get _ da_cX5_surely_0 6 _ _ _ rfl
theorem dX5_surely_11 : decode cX5_surely 11 = .ok (.ifCond .ne 6, 3) := dk_get _ da_cX5_surely_0 7 _ _ _ rfl
theorem dX5_surely_14 : decode cX5_surely 14 = .ok (.ldc 148, 2) := dk_get _ da_cX5_surely_0 8 _ _ _ rfl
theorem dX5_surely_16 : decode cX5_surely 16 = .ok (.ireturn, 1) := dk_get _ da_cX5_surely_0 9 _ _ _ rfl
theorem dX5_surely_17 : decode cX5_surely 17 = .ok (.aload_n 0, 1) := dk_get _ da_cX5_surely_0 10 _ _ _ rfl
theorem dX5_surely_18 : decode cX5_surely 18 = .ok (.iload_n 1, 1) := dk_get _ da_cX5_surely_0 11 _ _ _ rfl
theorem dX5_surely_19 : decode cX5_surely 19 = .ok (.iload_n 2, 1) := dk_get _ da_cX5_surely_0 12 _ _ _ rfl
theorem dX5_surely_20 : decode cX5_surely 20 = .ok (.invokevirtual 171, 3) := dk_get _ da_cX5_surely_0 13 _ _ _ rfl
theorem dX5_surely_23 : decode cX5_surely 23 = .ok (.aload_n 0, 1) := dk_get _ da_cX5_surely_0 14 _ _ _ rfl
theorem dX5_surely_24 : decode cX5_surely 24 = .ok (.getfield 17, 3) := dk_get _ da_cX5_surely_0 15 _ _ _ rfl
theorem dX5_surely_27 : decode cX5_surely 27 = .ok (.sipush 320, 3) := dk_get _ da_cX5_surely_0 16 _ _ _ rfl
theorem dX5_surely_30 : decode cX5_surely 30 = .ok (.iaload, 1) := dk_get _ da_cX5_surely_0 17 _ _ _ rfl
theorem dX5_surely_31 : decode cX5_surely 31 = .ok (.ifCond .ne 6, 3) := dk_get _ da_cX5_surely_0 18 _ _ _ rfl
theorem dX5_surely_34 : decode cX5_surely 34 = .ok (.ldc 148, 2) := dk_get _ da_cX5_surely_0 19 _ _ _ rfl
theorem dX5_surely_36 : decode cX5_surely 36 = .ok (.ireturn, 1) := dk_get _ da_cX5_surely_0 20 _ _ _ rfl
theorem dX5_surely_37 : decode cX5_surely 37 = .ok (.aload_n 0, 1) := dk_get _ da_cX5_surely_0 21 _ _ _ rfl
theorem dX5_surely_38 : decode cX5_surely 38 = .ok (.getfield 29, 3) := dk_get _ da_cX5_surely_0 22 _ _ _ rfl
theorem dX5_surely_41 : decode cX5_surely 41 = .ok (.sipush 1920, 3) := dk_get _ da_cX5_surely_0 23 _ _ _ rfl
theorem dX5_surely_44 : decode cX5_surely 44 = .ok (.iaload, 1) := dk_get _ da_cX5_surely_0 24 _ _ _ rfl
theorem dX5_surely_45 : decode cX5_surely 45 = .ok (.istore_n 3, 1) := dk_get _ da_cX5_surely_0 25 _ _ _ rfl
theorem dX5_surely_46 : decode cX5_surely 46 = .ok (.aload_n 0, 1) := dk_get _ da_cX5_surely_0 26 _ _ _ rfl
theorem dX5_surely_47 : decode cX5_surely 47 = .ok (.getfield 17, 3) := dk_get _ da_cX5_surely_0 27 _ _ _ rfl
theorem dX5_surely_50 : decode cX5_surely 50 = .ok (.sipush 320, 3) := dk_get _ da_cX5_surely_0 28 _ _ _ rfl
theorem dX5_surely_53 : decode cX5_surely 53 = .ok (.iaload, 1) := dk_get _ da_cX5_surely_0 29 _ _ _ rfl
theorem dX5_surely_54 : decode cX5_surely 54 = .ok (.iconst 1, 1) := dk_get _ da_cX5_surely_0 30 _ _ _ rfl
theorem dX5_surely_55 : decode cX5_surely 55 = .ok (.if_icmp .le 14, 3) := dk_get _ da_cX5_surely_0 31 _ _ _ rfl
theorem dX5_surely_58 : decode cX5_surely 58 = .ok (.aload_n 0, 1) := dk_get _ da_cX5_surely_0 32 _ _ _ rfl
theorem dX5_surely_59 : decode cX5_surely 59 = .ok (.getfield 29, 3) := dk_get _ da_cX5_surely_0 33 _ _ _ rfl
theorem dX5_surely_62 : decode cX5_surely 62 = .ok (.sipush 1921, 3) := dk_get _ da_cX5_surely_0 34 _ _ _ rfl
theorem dX5_surely_65 : decode cX5_surely 65 = .ok (.iaload, 1) := dk_get _ da_cX5_surely_0 35 _ _ _ rfl
theorem dX5_surely_66 : decode cX5_surely 66 = .ok (.goto 4, 3) := dk_get _ da_cX5_surely_0 36 _ _ _ rfl
theorem dX5_surely_69 : decode cX5_surely 69 = .ok (.iconst 0, 1) := dk_get _ da_cX5_surely_0 37 _ _ _ rfl
theorem dX5_surely_70 : decode cX5_surely 70 = .ok (.istore 4, 2) := dk_get _ da_cX5_surely_0 38 _ _ _ rfl
theorem dX5_surely_72 : decode cX5_surely 72 = .ok (.iload_n 3, 1) := dk_get _ da_cX5_surely_0 39 _ _ _ rfl
theorem dX5_surely_73 : decode cX5_surely 73 = .ok (.iload 4, 2) := dk_get _ da_cX5_surely_0 40 _ _ _ rfl
theorem dX5_surely_75 : decode cX5_surely 75 = .ok (.aload_n 0, 1) := dk_get _ da_cX5_surely_0 41 _ _ _ rfl
theorem dX5_surely_76 : decode cX5_surely 76 = .ok (.getfield 20, 3) := dk_get _ da_cX5_surely_0 42 _ _ _ rfl
theorem dX5_surely_79 : decode cX5_surely 79 = .ok (.sipush 320, 3) := dk_get _ da_cX5_surely_0 43 _ _ _ rfl
theorem dX5_surely_82 : decode cX5_surely 82 = .ok (.iaload, 1) := dk_get _ da_cX5_surely_0 44 _ _ _ rfl
theorem dX5_surely_83 : decode cX5_surely 83 = .ok (.iadd, 1) := dk_get _ da_cX5_surely_0 45 _ _ _ rfl
theorem dX5_surely_84 : decode cX5_surely 84 = .ok (.if_icmp .le 14, 3) := dk_get _ da_cX5_surely_0 46 _ _ _ rfl
theorem dX5_surely_87 : decode cX5_surely 87 = .ok (.aload_n 0, 1) := dk_get _ da_cX5_surely_0 47 _ _ _ rfl
theorem dX5_surely_88 : decode cX5_surely 88 = .ok (.getfield 26, 3) := dk_get _ da_cX5_surely_0 48 _ _ _ rfl
theorem dX5_surely_91 : decode cX5_surely 91 = .ok (.sipush 1920, 3) := dk_get _ da_cX5_surely_0 49 _ _ _ rfl
theorem dX5_surely_94 : decode cX5_surely 94 = .ok (.iaload, 1) := dk_get _ da_cX5_surely_0 50 _ _ _ rfl
theorem dX5_surely_95 : decode cX5_surely 95 = .ok (.goto 5, 3) := dk_get _ da_cX5_surely_0 51 _ _ _ rfl
theorem dX5_surely_98 : decode cX5_surely 98 = .ok (.ldc 148, 2) := dk_get _ da_cX5_surely_0 52 _ _ _ rfl
theorem dX5_surely_100 : decode cX5_surely 100 = .ok (.ireturn, 1) := dk_get _ da_cX5_surely_0 53 _ _ _ rfl
theorem mi_wsX5_failed_wsX5_failed_r1 : ∀ w ∈ wsX5_failed_r1, w ∈ wsX5_failed := fun _ h => (List.mem_cons_of_mem _ (List.mem_append_left _ (List.mem_append_left _ h)))
theorem mi_wsX5_failed_wsX50 : ∀ w ∈ wsX50, w ∈ wsX5_failed := fun _ h => (List.mem_cons_of_mem _ (List.mem_append_right _ h))
set_option maxRecDepth 20000 in
theorem ggX5_failed_X5_isRange : GoodIn wsX5_failed wsX5_isRange := goodIn_k _ [(wsX5_failed_r1, [7, 8]), (wsX50, [0, 1, 2, 3, 4, 5, 6, 7, 8, 9, 10, 11, 12, 13, 14, 15, 16, 17, 18, 19, 20, 21, 22, 23, 24, 25, 26, 27, 28, 29])] (gk_c mi_wsX5_failed_wsX5_failed_r1 (gk_c mi_wsX5_failed_wsX50 gk_n)) rfl (by decide +kernel)
set_option maxRecDepth 20000 in
theorem gX5_failed_X5_isRange : GoodIn wsX5_failed (wsV RX5 142 RX5 yX5_isRange wsX5_isRange) := goodIn_app (goodIn_k _ [(wsX5_failed_r1, [3, 4, 5, 6])] (gk_c mi_wsX5_failed_wsX5_failed_r1 gk_n) rfl (by decide +kernel)) ggX5_failed_X5_isRange
set_option maxRecDepth 20000 in
theorem ggX5_failed_X5_isShare : GoodIn wsX5_failed wsX5_isShare := goodIn_k _ [(wsX5_failed_r1, [11, 12, 13, 6, 14])] (gk_c mi_wsX5_failed_wsX5_failed_r1 gk_n) rfl (by decide +kernel)
set_option maxRecDepth 20000 in
theorem gX5_failed_X5_isShare : GoodIn wsX5_failed (va_wsS RX5 184 yX5_isShare wsX5_isShare) := goodIn_app (goodIn_k _ [(wsX5_failed_r1, [9, 10, 6])] (gk_c mi_wsX5_failed_wsX5_failed_r1 gk_n) rfl (by decide +kernel)) ggX5_failed_X5_isShare
set_option maxRecDepth 20000 in
theorem ggX5_failed_X5_isEnough : GoodIn wsX5_failed wsX5_isEnough := goodIn_k _ [(wsX5_failed_r1, [18, 19]), (wsX50, [0, 1, 2, 3, 4, 5, 6, 7, 8, 9, 10, 11, 12, 13, 14, 15, 16, 17, 18, 19, 20, 21, 22, 23, 24, 25, 26, 27, 28, 29])] (gk_c mi_wsX5_failed_wsX5_failed_r1 (gk_c mi_wsX5_failed_wsX50 gk_n)) rfl (by decide +kernel)
set_option maxRecDepth 20000 in
theorem gX5_failed_X5_isEnough : GoodIn wsX5_failed (wsV RX5 187 RX5 yX5_isEnough wsX5_isEnough) := goodIn_app (goodIn_k _ [(wsX5_failed_r1, [15, 16, 17, 6])] (gk_c mi_wsX5_failed_wsX5_failed_r1 gk_n) rfl (by decide +kernel)) ggX5_failed_X5_isEnough
theorem mi_wsX5_failed_wsX5_failed_r2 : ∀ w ∈ wsX5_failed_r2, w ∈ wsX5_failed := fun _ h => (List.mem_cons_of_mem _ (List.mem_append_left _ (List.mem_append_right _ (List.mem_append_left _ h))))
theorem mi_wsX5_failed_wsX5_failed_r3 : ∀ w ∈ wsX5_failed_r3, w ∈ wsX5_failed := fun _ h => (List.mem_cons_of_mem _ (List.mem_append_left _ (List.mem_append_right _ (List.mem_append_right _ (List.mem_append_left _ h)))))
theorem mi_wsX5_failed_wsX5_failed_r4 : ∀ w ∈ wsX5_failed_r4, w ∈ wsX5_failed := fun _ h => (List.mem_cons_of_mem _ (List.mem_append_left _ (List.mem_append_right _ (List.mem_append_right _ (List.mem_append_right _ h)))))
set_option maxRecDepth 20000 in
theorem ggX5_failed_X5_sums : GoodIn wsX5_failed wsX5_sums := goodIn_k _ [(wsX5_failed_r1, [23, 19]), (wsX5_failed_r2, [0, 1, 2]), (wsX5_failed_r1, [6]), (wsX5_failed_r2, [3, 4]), (wsX5_failed_r1, [8]), (wsX5_failed_r2, [5, 6, 7, 8, 9, 10, 11, 12, 13, 14, 15]), (wsX5_failed_r1, [1]), (wsX5_failed_r2, [16, 17]), (wsX5_failed_r1, [2]), (wsX5_failed_r2, [18, 19, 20, 21, 22, 23]), (wsX5_failed_r3, [0, 1, 2, 3, 4, 5, 6, 7, 8, 9, 10, 11, 12, 13, 14, 15, 16, 17, 18, 19, 20, 21, 22, 23]), (wsX5_failed_r4, [0, 1, 2, 3]), (wsX50, [0, 1, 2, 3, 4, 5, 6, 7, 8, 9, 10, 11, 12, 13, 14, 15, 16, 17, 18, 19, 20, 21, 22, 23, 24, 25, 26, 27, 28, 29])] (gk_c mi_wsX5_failed_wsX5_failed_r1 (gk_c mi_wsX5_failed_wsX5_failed_r2 (gk_c mi_wsX5_failed_wsX5_failed_r1 (gk_c mi_wsX5_failed_wsX5_failed_r2 (gk_c mi_wsX5_failed_wsX5_failed_r1 (gk_c mi_wsX5_failed_wsX5_failed_r2 (gk_c mi_wsX5_failed_wsX5_failed_r1 (gk_c mi_wsX5_failed_wsX5_failed_r2 (gk_c mi_wsX5_failed_wsX5_failed_r1 (gk_c mi_wsX5_failed_wsX5_failed_r2 (gk_c mi_wsX5_failed_wsX5_failed_r3 (gk_c mi_wsX5_failed_wsX5_failed_r4 (gk_c mi_wsX5_failed_wsX50 gk_n))))))))))))) rfl (by decide +kernel)
set_option maxRecDepth 20000 in
theorem gX5_failed_X5_sums : GoodIn wsX5_failed (wsV RX5 171 RX5 yX5_sums wsX5_sums) := goodIn_app (goodIn_k _ [(wsX5_failed_r1, [20, 21, 22, 6])] (gk_c mi_wsX5_failed_wsX5_failed_r1 gk_n) rfl (by decide +kernel)) ggX5_failed_X5_sums
set_option maxRecDepth 20000 in
theorem ggX5_failed_X5_times : GoodIn wsX5_failed wsX5_times := goodIn_k _ [(wsX5_failed_r4, [7]), (wsX5_failed_r2, [11]), (wsX50, [0, 1, 2, 3, 4, 5, 6, 7, 8, 9, 10, 11, 12, 13, 14, 15, 16, 17, 18, 19, 20, 21, 22, 23, 24, 25, 26, 27, 28, 29])] (gk_c mi_wsX5_failed_wsX5_failed_r4 (gk_c mi_wsX5_failed_wsX5_failed_r2 (gk_c mi_wsX5_failed_wsX50 gk_n))) rfl (by decide +kernel)
set_option maxRecDepth 20000 in
theorem gX5_failed_X5_times : GoodIn wsX5_failed (wsV RX5 149 RX5 yX5_times wsX5_times) := goodIn_app (goodIn_k _ [(wsX5_failed_r4, [4, 5, 6]), (wsX5_failed_r1, [6])] (gk_c mi_wsX5_failed_wsX5_failed_r4 (gk_c mi_wsX5_failed_wsX5_failed_r1 gk_n)) rfl (by decide +kernel)) ggX5_failed_X5_times
def dt_cX5_failed_0 : List (Nat × Instr × Nat) := [(0, .aload_n 0, 1), (1, .iconst 0, 1), (2, .putfield 77, 3), (5, .aload_n 0, 1), (6, .iload_n 1, 1), (7, .iload_n 2, 1), (8, .invokevirtual 142, 3), (11, .ifCond .eq 12, 3), (14, .iload_n 3, 1), (15, .iload 4, 2), (17, .invokestatic 184, 3), (20, .ifCond .ne 5, 3), (23, .iconst (-1), 1), (24, .ireturn, 1), (25, .aload_n 0, 1), (26, .iload_n 3, 1), (27, .iload 4, 2), (29, .invokevirtual 187, 3), (32, .ifCond .ne 6, 3), (35, .bipush (-2), 2), (37, .ireturn, 1), (38, .aload_n 0, 1), (39, .iload_n 1, 1), (40, .iload_n 2, 1), (41, .invokevirtual 171, 3), (44, .iconst 0, 1), (45, .istore 5, 2), (47, .iconst 0, 1), (48, .istore 6, 2), (50, .iload 6, 2), (52, .aload_n 0, 1), (53, .getfield 17, 3), (56, .sipush 320, 3), (59, .iaload, 1), (60, .if_icmp .ge 40, 3), (63, .aload_n 0, 1), (64, .aload_n 0, 1), (65, .getfield 26, 3), (68, .sipush 1920, 3), (71, .iload 6, 2), (73, .iadd, 1), (74, .iaload, 1), (75, .iload_n 1, 1), (76, .iload_n 2, 1), (77, .invokevirtual 149, 3), (80, .iload 4, 2), (82, .imul, 1), (83, .iload_n 3, 1), (84, .iload_n 2, 1), (85, .iload_n 1, 1), (86, .isub, 1), (87, .imul, 1), (88, .if_icmp .gt 6, 3), (91, .iinc 5 1, 3), (94, .iinc 6 1, 3), (97, .goto (-47), 3), (100, .iload 5, 2), (102, .ireturn, 1)]
theorem da_cX5_failed_0 : dk_all cX5_failed dt_cX5_failed_0 = true := by decide +kernel
theorem dX5_failed_0 : decode cX5_failed 0 = .ok (.aload_n 0, 1) := dk_get _ da_cX5_failed_0 0 _ _ _ rfl
theorem dX5_failed_1 : decode cX5_failed 1 = .ok (.iconst 0, 1) := dk_get _ da_cX5_failed_0 1 _ _ _ rfl
theorem dX5_failed_2 : decode cX5_failed 2 = .ok (.putfield 77, 3) := dk_get _ da_cX5_failed_0 2 _ _ _ rfl
theorem dX5_failed_5 : decode cX5_failed 5 = .ok (.aload_n 0, 1) := dk_get _ da_cX5_failed_0 3 _ _ _ rfl
theorem dX5_failed_6 : decode cX5_failed 6 = .ok (.iload_n 1, 1) := dk_get _ da_cX5_failed_0 4 _ _ _ rfl
theorem dX5_failed_7 : decode cX5_failed 7 = .ok (.iload_n 2, 1) := dk_get _ da_cX5_failed_0 5 _ _ _ rfl
theorem dX5_failed_8 : decode cX5_failed 8 = .ok (.invokevirtual 142, 3) := dk_get _ da_cX5_failed_0 6 _ _ _ rfl
theorem dX5_failed_11 : decode cX5_failed 11 = .ok (.ifCond .eq 12, 3) := dk_get _ da_cX5_failed_0 7 _ _ _ rfl
theorem dX5_failed_14 : decode cX5_failed 14 = .ok (.iload_n 3, 1) := dk_get _ da_cX5_failed_0 8 _ _ _ rfl
theorem dX5_failed_15 : decode cX5_failed 15 = .ok (.iload 4, 2) := dk_get _ da_cX5_failed_0 9 _ _ _ rfl
theorem dX5_failed_17 : decode cX5_failed 17 = .ok (.invokestatic 184, 3) := dk_get _ da_cX5_failed_0 10 _ _ _ rfl
theorem dX5_failed_20 : decode cX5_failed 20 = .ok (.ifCond .ne 5, 3) := dk_get _ da_cX5_failed_0 11 _ _ _ rfl
theorem dX5_failed_23 : decode cX5_failed 23 = .ok (.iconst (-1), 1) := dk_get _ da_cX5_failed_0 12 _ _ _ rfl
theorem dX5_failed_24 : decode cX5_failed 24 = .ok (.ireturn, 1) := dk_get _ da_cX5_failed_0 13 _ _ _ rfl
theorem dX5_failed_25 : decode cX5_failed 25 = .ok (.aload_n 0, 1) := dk_get _ da_cX5_failed_0 14 _ _ _ rfl
theorem dX5_failed_26 : decode cX5_failed 26 = .ok (.iload_n 3, 1) := dk_get _ da_cX5_failed_0 15 _ _ _ rfl
theorem dX5_failed_27 : decode cX5_failed 27 = .ok (.iload 4, 2) := dk_get _ da_cX5_failed_0 16 _ _ _ rfl
theorem dX5_failed_29 : decode cX5_failed 29 = .ok (.invokevirtual 187, 3) := dk_get _ da_cX5_failed_0 17 _ _ _ rfl
theorem dX5_failed_32 : decode cX5_failed 32 = .ok (.ifCond .ne 6, 3) := dk_get _ da_cX5_failed_0 18 _ _ _ rfl
theorem dX5_failed_35 : decode cX5_failed 35 = .ok (.bipush (-2), 2) := dk_get _ da_cX5_failed_0 19 _ _ _ rfl
theorem dX5_failed_37 : decode cX5_failed 37 = .ok (.ireturn, 1) := dk_get _ da_cX5_failed_0 20 _ _ _ rfl
theorem dX5_failed_38 : decode cX5_failed 38 = .ok (.aload_n 0, 1) := dk_get _ da_cX5_failed_0 21 _ _ _ rfl
theorem dX5_failed_39 : decode cX5_failed 39 = .ok (.iload_n 1, 1) := dk_get _ da_cX5_failed_0 22 _ _ _ rfl
theorem dX5_failed_40 : decode cX5_failed 40 = .ok (.iload_n 2, 1) := dk_get _ da_cX5_failed_0 23 _ _ _ rfl
theorem dX5_failed_41 : decode cX5_failed 41 = .ok (.invokevirtual 171, 3) := dk_get _ da_cX5_failed_0 24 _ _ _ rfl
theorem dX5_failed_44 : decode cX5_failed 44 = .ok (.iconst 0, 1) := dk_get _ da_cX5_failed_0 25 _ _ _ rfl
theorem dX5_failed_45 : decode cX5_failed 45 = .ok (.istore 5, 2) := dk_get _ da_cX5_failed_0 26 _ _ _ rfl
theorem dX5_failed_47 : decode cX5_failed 47 = .ok (.iconst 0, 1) := dk_get _ da_cX5_failed_0 27 _ _ _ rfl
theorem dX5_failed_48 : decode cX5_failed 48 = .ok (.istore 6, 2) := dk_get _ da_cX5_failed_0 28 _ _ _ rfl
theorem dX5_failed_50 : decode cX5_failed 50 = .ok (.iload 6, 2) := dk_get _ da_cX5_failed_0 29 _ _ _ rfl
theorem dX5_failed_52 : decode cX5_failed 52 = .ok (.aload_n 0, 1) := dk_get _ da_cX5_failed_0 30 _ _ _ rfl
theorem dX5_failed_53 : decode cX5_failed 53 = .ok (.getfield 17, 3) := dk_get _ da_cX5_failed_0 31 _ _ _ rfl
theorem dX5_failed_56 : decode cX5_failed 56 = .ok (.sipush 320, 3) := dk_get _ da_cX5_failed_0 32 _ _ _ rfl
theorem dX5_failed_59 : decode cX5_failed 59 = .ok (.iaload, 1) := dk_get _ da_cX5_failed_0 33 _ _ _ rfl
theorem dX5_failed_60 : decode cX5_failed 60 = .ok (.if_icmp .ge 40, 3) := dk_get _ da_cX5_failed_0 34 _ _ _ rfl
theorem dX5_failed_63 : decode cX5_failed 63 = .ok (.aload_n 0, 1) := dk_get _ da_cX5_failed_0 35 _ _ _ rfl
theorem dX5_failed_64 : decode cX5_failed 64 = .ok (.aload_n 0, 1) := dk_get _ da_cX5_failed_0 36 _ _ _ rfl
theorem dX5_failed_65 : decode cX5_failed 65 = .ok (.getfield 26, 3) := dk_get _ da_cX5_failed_0 37 _ _ _ rfl
theorem dX5_failed_68 : decode cX5_failed 68 = .ok (.sipush 1920, 3) := dk_get _ da_cX5_failed_0 38 _ _ _ rfl
theorem dX5_failed_71 : decode cX5_failed 71 = .ok (.iload 6, 2) := dk_get _ da_cX5_failed_0 39 _ _ _ rfl
theorem dX5_failed_73 : decode cX5_failed 73 = .ok (.iadd, 1) := dk_get _ da_cX5_failed_0 40 _ _ _ rfl
theorem dX5_failed_74 : decode cX5_failed 74 = .ok (.iaload, 1) := dk_get _ da_cX5_failed_0 41 _ _ _ rfl
theorem dX5_failed_75 : decode cX5_failed 75 = .ok (.iload_n 1, 1) := dk_get _ da_cX5_failed_0 42 _ _ _ rfl
theorem dX5_failed_76 : decode cX5_failed 76 = .ok (.iload_n 2, 1) := dk_get _ da_cX5_failed_0 43 _ _ _ rfl
theorem dX5_failed_77 : decode cX5_failed 77 = .ok (.invokevirtual 149, 3) := dk_get _ da_cX5_failed_0 44 _ _ _ rfl
theorem dX5_failed_80 : decode cX5_failed 80 = .ok (.iload 4, 2) := dk_get _ da_cX5_failed_0 45 _ _ _ rfl
theorem dX5_failed_82 : decode cX5_failed 82 = .ok (.imul, 1) := dk_get _ da_cX5_failed_0 46 _ _ _ rfl
theorem dX5_failed_83 : decode cX5_failed 83 = .ok (.iload_n 3, 1) := dk_get _ da_cX5_failed_0 47 _ _ _ rfl
theorem dX5_failed_84 : decode cX5_failed 84 = .ok (.iload_n 2, 1) := dk_get _ da_cX5_failed_0 48 _ _ _ rfl
theorem dX5_failed_85 : decode cX5_failed 85 = .ok (.iload_n 1, 1) := dk_get _ da_cX5_failed_0 49 _ _ _ rfl
theorem dX5_failed_86 : decode cX5_failed 86 = .ok (.isub, 1) := dk_get _ da_cX5_failed_0 50 _ _ _ rfl
theorem dX5_failed_87 : decode cX5_failed 87 = .ok (.imul, 1) := dk_get _ da_cX5_failed_0 51 _ _ _ rfl
theorem dX5_failed_88 : decode cX5_failed 88 = .ok (.if_icmp .gt 6, 3) := dk_get _ da_cX5_failed_0 52 _ _ _ rfl
theorem dX5_failed_91 : decode cX5_failed 91 = .ok (.iinc 5 1, 3) := dk_get _ da_cX5_failed_0 53 _ _ _ rfl
theorem dX5_failed_94 : decode cX5_failed 94 = .ok (.iinc 6 1, 3) := dk_get _ da_cX5_failed_0 54 _ _ _ rfl
theorem dX5_failed_97 : decode cX5_failed 97 = .ok (.goto (-47), 3) := dk_get _ da_cX5_failed_0 55 _ _ _ rfl
theorem dX5_failed_100 : decode cX5_failed 100 = .ok (.iload 5, 2) := dk_get _ da_cX5_failed_0 56 _ _ _ rfl
theorem dX5_failed_102 : decode cX5_failed 102 = .ok (.ireturn, 1) := dk_get _ da_cX5_failed_0 57 _ _ _ rfl

