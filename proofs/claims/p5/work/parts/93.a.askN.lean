abbrev cX5_asked : ByteArray := prog_7_method_37_code
def yX5_asked : MethodName := ⟨RX5, "asked", "(II)I"⟩
abbrev cX5_node : ByteArray := prog_7_method_38_code
def yX5_node : MethodName := ⟨RX5, "node", "(II)I"⟩
abbrev cX5_vote : ByteArray := prog_7_method_39_code
def yX5_vote : MethodName := ⟨RX5, "vote", "(IIII)I"⟩
abbrev cX5_loss : ByteArray := prog_7_method_40_code
def yX5_loss : MethodName := ⟨RX5, "loss", "(II)I"⟩
abbrev cX5_cancelled : ByteArray := prog_7_method_41_code
def yX5_cancelled : MethodName := ⟨RX5, "cancelled", "(II)I"⟩
abbrev cX5_goesDown : ByteArray := prog_7_method_42_code
def yX5_goesDown : MethodName := ⟨RX5, "goesDown", "(I)V"⟩
abbrev cX5_above : ByteArray := prog_7_method_43_code
def yX5_above : MethodName := ⟨RX5, "above", "(III)I"⟩
abbrev cX5_holds : ByteArray := prog_7_method_44_code
def yX5_holds : MethodName := ⟨RX5, "holds", "(I)I"⟩
def wsX5_asked_r1 : List Cond := [Cond.fieldLink RX5 13 "MajorityIndexModel" "slots" "I", Cond.methodLink RX5 142 yX5_isRange, Cond.instanceMethod yX5_isRange, Cond.selects RX5 yX5_isRange yX5_isRange, Cond.initialized RX5, Cond.code yX5_isRange cX5_isRange 3 (some .boolean), Cond.fieldLink RX5 84 "MajorityIndexModel" "n" "I", Cond.methodLink RX5 124 yX5_laysAll, Cond.instanceMethod yX5_laysAll, Cond.selects RX5 yX5_laysAll yX5_laysAll, Cond.code yX5_laysAll cX5_laysAll 2 none, Cond.fieldLink RX5 101 "MajorityIndexModel" "nodes" "I", Cond.methodLink RX5 107 yX5_lays, Cond.instanceMethod yX5_lays, Cond.selects RX5 yX5_lays yX5_lays, Cond.code yX5_lays cX5_lays 8 (some .int), Cond.fieldLink RX5 38 "MajorityIndexModel" "nodeL" "[I", Cond.fieldLink RX5 41 "MajorityIndexModel" "nodeR" "[I", Cond.fieldLink RX5 7 "MajorityIndexModel" "row" "[I", Cond.methodLink RX5 104 yX5_one, Cond.instanceMethod yX5_one, Cond.selects RX5 yX5_one yX5_one, Cond.code yX5_one cX5_one 3 none, Cond.fieldLink RX5 17 "MajorityIndexModel" "many" "[I"]
def wsX5_asked_r2 : List Cond := [Cond.fieldLink RX5 20 "MajorityIndexModel" "loss" "[I", Cond.fieldLink RX5 23 "MajorityIndexModel" "less" "[I", Cond.fieldLink RX5 26 "MajorityIndexModel" "voteValue" "[I", Cond.fieldLink RX5 29 "MajorityIndexModel" "voteNumber" "[I", Cond.methodLink RX5 111 yX5_together, Cond.instanceMethod yX5_together, Cond.selects RX5 yX5_together yX5_together, Cond.code yX5_together cX5_together 9 none, Cond.fieldLink RX5 87 "MajorityIndexModel" "allMany" "I", Cond.fieldLink RX5 35 "MajorityIndexModel" "allNumber" "[I", Cond.fieldLink RX5 32 "MajorityIndexModel" "allValue" "[I", Cond.methodLink RX5 94 yX5_adds, Cond.instanceMethod yX5_adds, Cond.selects RX5 yX5_adds yX5_adds, Cond.code yX5_adds cX5_adds 4 none, Cond.methodLink RX5 98 yX5_sorts, Cond.instanceMethod yX5_sorts, Cond.selects RX5 yX5_sorts yX5_sorts, Cond.code yX5_sorts cX5_sorts 4 none, Cond.methodLink RX5 90 yX5_isAhead, Cond.instanceMethod yX5_isAhead, Cond.selects RX5 yX5_isAhead yX5_isAhead, Cond.code yX5_isAhead cX5_isAhead 3 (some .boolean), Cond.methodLink RX5 152 yX5_nodeOf]
def wsX5_asked_r3 : List Cond := [Cond.instanceMethod yX5_nodeOf, Cond.selects RX5 yX5_nodeOf yX5_nodeOf, Cond.code yX5_nodeOf cX5_nodeOf 4 (some .int)]
def wsX5_asked : List Cond := .code yX5_asked cX5_asked 3 (some .int) :: ((wsX5_asked_r1 ++ (wsX5_asked_r2 ++ wsX5_asked_r3)) ++ wsX50)
def wsX5_node_r1 : List Cond := [Cond.fieldLink RX5 77 "MajorityIndexModel" "thrown" "I", Cond.fieldLink RX5 17 "MajorityIndexModel" "many" "[I", Cond.methodLink RX5 156 yX5_asked, Cond.instanceMethod yX5_asked, Cond.selects RX5 yX5_asked yX5_asked, Cond.initialized RX5, Cond.code yX5_asked cX5_asked 3 (some .int), Cond.fieldLink RX5 13 "MajorityIndexModel" "slots" "I", Cond.methodLink RX5 142 yX5_isRange, Cond.instanceMethod yX5_isRange, Cond.selects RX5 yX5_isRange yX5_isRange, Cond.code yX5_isRange cX5_isRange 3 (some .boolean), Cond.fieldLink RX5 84 "MajorityIndexModel" "n" "I", Cond.methodLink RX5 124 yX5_laysAll, Cond.instanceMethod yX5_laysAll, Cond.selects RX5 yX5_laysAll yX5_laysAll, Cond.code yX5_laysAll cX5_laysAll 2 none, Cond.fieldLink RX5 101 "MajorityIndexModel" "nodes" "I", Cond.methodLink RX5 107 yX5_lays, Cond.instanceMethod yX5_lays, Cond.selects RX5 yX5_lays yX5_lays, Cond.code yX5_lays cX5_lays 8 (some .int), Cond.fieldLink RX5 38 "MajorityIndexModel" "nodeL" "[I", Cond.fieldLink RX5 41 "MajorityIndexModel" "nodeR" "[I"]
def wsX5_node_r2 : List Cond := [Cond.fieldLink RX5 7 "MajorityIndexModel" "row" "[I", Cond.methodLink RX5 104 yX5_one, Cond.instanceMethod yX5_one, Cond.selects RX5 yX5_one yX5_one, Cond.code yX5_one cX5_one 3 none, Cond.fieldLink RX5 20 "MajorityIndexModel" "loss" "[I", Cond.fieldLink RX5 23 "MajorityIndexModel" "less" "[I", Cond.fieldLink RX5 26 "MajorityIndexModel" "voteValue" "[I", Cond.fieldLink RX5 29 "MajorityIndexModel" "voteNumber" "[I", Cond.methodLink RX5 111 yX5_together, Cond.instanceMethod yX5_together, Cond.selects RX5 yX5_together yX5_together, Cond.code yX5_together cX5_together 9 none, Cond.fieldLink RX5 87 "MajorityIndexModel" "allMany" "I", Cond.fieldLink RX5 35 "MajorityIndexModel" "allNumber" "[I", Cond.fieldLink RX5 32 "MajorityIndexModel" "allValue" "[I", Cond.methodLink RX5 94 yX5_adds, Cond.instanceMethod yX5_adds, Cond.selects RX5 yX5_adds yX5_adds, Cond.code yX5_adds cX5_adds 4 none, Cond.methodLink RX5 98 yX5_sorts, Cond.instanceMethod yX5_sorts, Cond.selects RX5 yX5_sorts yX5_sorts, Cond.code yX5_sorts cX5_sorts 4 none]
def wsX5_node_r3 : List Cond := [Cond.methodLink RX5 90 yX5_isAhead, Cond.instanceMethod yX5_isAhead, Cond.selects RX5 yX5_isAhead yX5_isAhead, Cond.code yX5_isAhead cX5_isAhead 3 (some .boolean), Cond.methodLink RX5 152 yX5_nodeOf, Cond.instanceMethod yX5_nodeOf, Cond.selects RX5 yX5_nodeOf yX5_nodeOf, Cond.code yX5_nodeOf cX5_nodeOf 4 (some .int)]
def wsX5_node : List Cond := .code yX5_node cX5_node 4 (some .int) :: ((wsX5_node_r1 ++ (wsX5_node_r2 ++ wsX5_node_r3)) ++ wsX50)
def wsX5_vote_r1 : List Cond := [Cond.fieldLink RX5 77 "MajorityIndexModel" "thrown" "I", Cond.fieldLink RX5 17 "MajorityIndexModel" "many" "[I", Cond.fieldLink RX5 26 "MajorityIndexModel" "voteValue" "[I", Cond.fieldLink RX5 29 "MajorityIndexModel" "voteNumber" "[I", Cond.methodLink RX5 156 yX5_asked, Cond.instanceMethod yX5_asked, Cond.selects RX5 yX5_asked yX5_asked, Cond.initialized RX5, Cond.code yX5_asked cX5_asked 3 (some .int), Cond.fieldLink RX5 13 "MajorityIndexModel" "slots" "I", Cond.methodLink RX5 142 yX5_isRange, Cond.instanceMethod yX5_isRange, Cond.selects RX5 yX5_isRange yX5_isRange, Cond.code yX5_isRange cX5_isRange 3 (some .boolean), Cond.fieldLink RX5 84 "MajorityIndexModel" "n" "I", Cond.methodLink RX5 124 yX5_laysAll, Cond.instanceMethod yX5_laysAll, Cond.selects RX5 yX5_laysAll yX5_laysAll, Cond.code yX5_laysAll cX5_laysAll 2 none, Cond.fieldLink RX5 101 "MajorityIndexModel" "nodes" "I", Cond.methodLink RX5 107 yX5_lays, Cond.instanceMethod yX5_lays, Cond.selects RX5 yX5_lays yX5_lays, Cond.code yX5_lays cX5_lays 8 (some .int)]
def wsX5_vote_r2 : List Cond := [Cond.fieldLink RX5 38 "MajorityIndexModel" "nodeL" "[I", Cond.fieldLink RX5 41 "MajorityIndexModel" "nodeR" "[I", Cond.fieldLink RX5 7 "MajorityIndexModel" "row" "[I", Cond.methodLink RX5 104 yX5_one, Cond.instanceMethod yX5_one, Cond.selects RX5 yX5_one yX5_one, Cond.code yX5_one cX5_one 3 none, Cond.fieldLink RX5 20 "MajorityIndexModel" "loss" "[I", Cond.fieldLink RX5 23 "MajorityIndexModel" "less" "[I", Cond.methodLink RX5 111 yX5_together, Cond.instanceMethod yX5_together, Cond.selects RX5 yX5_together yX5_together, Cond.code yX5_together cX5_together 9 none, Cond.fieldLink RX5 87 "MajorityIndexModel" "allMany" "I", Cond.fieldLink RX5 35 "MajorityIndexModel" "allNumber" "[I", Cond.fieldLink RX5 32 "MajorityIndexModel" "allValue" "[I", Cond.methodLink RX5 94 yX5_adds, Cond.instanceMethod yX5_adds, Cond.selects RX5 yX5_adds yX5_adds, Cond.code yX5_adds cX5_adds 4 none, Cond.methodLink RX5 98 yX5_sorts, Cond.instanceMethod yX5_sorts, Cond.selects RX5 yX5_sorts yX5_sorts, Cond.code yX5_sorts cX5_sorts 4 none]
def wsX5_vote_r3 : List Cond := [Cond.methodLink RX5 90 yX5_isAhead, Cond.instanceMethod yX5_isAhead, Cond.selects RX5 yX5_isAhead yX5_isAhead, Cond.code yX5_isAhead cX5_isAhead 3 (some .boolean), Cond.methodLink RX5 152 yX5_nodeOf, Cond.instanceMethod yX5_nodeOf, Cond.selects RX5 yX5_nodeOf yX5_nodeOf, Cond.code yX5_nodeOf cX5_nodeOf 4 (some .int), Cond.methodLink RX5 80 yX5_within, Cond.static yX5_within, Cond.code yX5_within cX5_within 3 (some .boolean)]
def wsX5_vote : List Cond := .code yX5_vote cX5_vote 6 (some .int) :: ((wsX5_vote_r1 ++ (wsX5_vote_r2 ++ wsX5_vote_r3)) ++ wsX50)
def wsX5_loss_r1 : List Cond := [Cond.fieldLink RX5 77 "MajorityIndexModel" "thrown" "I", Cond.fieldLink RX5 20 "MajorityIndexModel" "loss" "[I", Cond.methodLink RX5 156 yX5_asked, Cond.instanceMethod yX5_asked, Cond.selects RX5 yX5_asked yX5_asked, Cond.initialized RX5, Cond.code yX5_asked cX5_asked 3 (some .int), Cond.fieldLink RX5 13 "MajorityIndexModel" "slots" "I", Cond.methodLink RX5 142 yX5_isRange, Cond.instanceMethod yX5_isRange, Cond.selects RX5 yX5_isRange yX5_isRange, Cond.code yX5_isRange cX5_isRange 3 (some .boolean), Cond.fieldLink RX5 84 "MajorityIndexModel" "n" "I", Cond.methodLink RX5 124 yX5_laysAll, Cond.instanceMethod yX5_laysAll, Cond.selects RX5 yX5_laysAll yX5_laysAll, Cond.code yX5_laysAll cX5_laysAll 2 none, Cond.fieldLink RX5 101 "MajorityIndexModel" "nodes" "I", Cond.methodLink RX5 107 yX5_lays, Cond.instanceMethod yX5_lays, Cond.selects RX5 yX5_lays yX5_lays, Cond.code yX5_lays cX5_lays 8 (some .int), Cond.fieldLink RX5 38 "MajorityIndexModel" "nodeL" "[I", Cond.fieldLink RX5 41 "MajorityIndexModel" "nodeR" "[I"]
def wsX5_loss_r2 : List Cond := [Cond.fieldLink RX5 7 "MajorityIndexModel" "row" "[I", Cond.methodLink RX5 104 yX5_one, Cond.instanceMethod yX5_one, Cond.selects RX5 yX5_one yX5_one, Cond.code yX5_one cX5_one 3 none, Cond.fieldLink RX5 17 "MajorityIndexModel" "many" "[I", Cond.fieldLink RX5 23 "MajorityIndexModel" "less" "[I", Cond.fieldLink RX5 26 "MajorityIndexModel" "voteValue" "[I", Cond.fieldLink RX5 29 "MajorityIndexModel" "voteNumber" "[I", Cond.methodLink RX5 111 yX5_together, Cond.instanceMethod yX5_together, Cond.selects RX5 yX5_together yX5_together, Cond.code yX5_together cX5_together 9 none, Cond.fieldLink RX5 87 "MajorityIndexModel" "allMany" "I", Cond.fieldLink RX5 35 "MajorityIndexModel" "allNumber" "[I", Cond.fieldLink RX5 32 "MajorityIndexModel" "allValue" "[I", Cond.methodLink RX5 94 yX5_adds, Cond.instanceMethod yX5_adds, Cond.selects RX5 yX5_adds yX5_adds, Cond.code yX5_adds cX5_adds 4 none, Cond.methodLink RX5 98 yX5_sorts, Cond.instanceMethod yX5_sorts, Cond.selects RX5 yX5_sorts yX5_sorts, Cond.code yX5_sorts cX5_sorts 4 none]
def wsX5_loss_r3 : List Cond := [Cond.methodLink RX5 90 yX5_isAhead, Cond.instanceMethod yX5_isAhead, Cond.selects RX5 yX5_isAhead yX5_isAhead, Cond.code yX5_isAhead cX5_isAhead 3 (some .boolean), Cond.methodLink RX5 152 yX5_nodeOf, Cond.instanceMethod yX5_nodeOf, Cond.selects RX5 yX5_nodeOf yX5_nodeOf, Cond.code yX5_nodeOf cX5_nodeOf 4 (some .int)]
def wsX5_loss : List Cond := .code yX5_loss cX5_loss 4 (some .int) :: ((wsX5_loss_r1 ++ (wsX5_loss_r2 ++ wsX5_loss_r3)) ++ wsX50)
def wsX5_cancelled_r1 : List Cond := [Cond.fieldLink RX5 77 "MajorityIndexModel" "thrown" "I", Cond.fieldLink RX5 23 "MajorityIndexModel" "less" "[I", Cond.methodLink RX5 156 yX5_asked, Cond.instanceMethod yX5_asked, Cond.selects RX5 yX5_asked yX5_asked, Cond.initialized RX5, Cond.code yX5_asked cX5_asked 3 (some .int), Cond.fieldLink RX5 13 "MajorityIndexModel" "slots" "I", Cond.methodLink RX5 142 yX5_isRange, Cond.instanceMethod yX5_isRange, Cond.selects RX5 yX5_isRange yX5_isRange, Cond.code yX5_isRange cX5_isRange 3 (some .boolean), Cond.fieldLink RX5 84 "MajorityIndexModel" "n" "I", Cond.methodLink RX5 124 yX5_laysAll, Cond.instanceMethod yX5_laysAll, Cond.selects RX5 yX5_laysAll yX5_laysAll, Cond.code yX5_laysAll cX5_laysAll 2 none, Cond.fieldLink RX5 101 "MajorityIndexModel" "nodes" "I", Cond.methodLink RX5 107 yX5_lays, Cond.instanceMethod yX5_lays, Cond.selects RX5 yX5_lays yX5_lays, Cond.code yX5_lays cX5_lays 8 (some .int), Cond.fieldLink RX5 38 "MajorityIndexModel" "nodeL" "[I", Cond.fieldLink RX5 41 "MajorityIndexModel" "nodeR" "[I"]
def wsX5_cancelled_r2 : List Cond := [Cond.fieldLink RX5 7 "MajorityIndexModel" "row" "[I", Cond.methodLink RX5 104 yX5_one, Cond.instanceMethod yX5_one, Cond.selects RX5 yX5_one yX5_one, Cond.code yX5_one cX5_one 3 none, Cond.fieldLink RX5 17 "MajorityIndexModel" "many" "[I", Cond.fieldLink RX5 20 "MajorityIndexModel" "loss" "[I", Cond.fieldLink RX5 26 "MajorityIndexModel" "voteValue" "[I", Cond.fieldLink RX5 29 "MajorityIndexModel" "voteNumber" "[I", Cond.methodLink RX5 111 yX5_together, Cond.instanceMethod yX5_together, Cond.selects RX5 yX5_together yX5_together, Cond.code yX5_together cX5_together 9 none, Cond.fieldLink RX5 87 "MajorityIndexModel" "allMany" "I", Cond.fieldLink RX5 35 "MajorityIndexModel" "allNumber" "[I", Cond.fieldLink RX5 32 "MajorityIndexModel" "allValue" "[I", Cond.methodLink RX5 94 yX5_adds, Cond.instanceMethod yX5_adds, Cond.selects RX5 yX5_adds yX5_adds, Cond.code yX5_adds cX5_adds 4 none, Cond.methodLink RX5 98 yX5_sorts, Cond.instanceMethod yX5_sorts, Cond.selects RX5 yX5_sorts yX5_sorts, Cond.code yX5_sorts cX5_sorts 4 none]
def wsX5_cancelled_r3 : List Cond := [Cond.methodLink RX5 90 yX5_isAhead, Cond.instanceMethod yX5_isAhead, Cond.selects RX5 yX5_isAhead yX5_isAhead, Cond.code yX5_isAhead cX5_isAhead 3 (some .boolean), Cond.methodLink RX5 152 yX5_nodeOf, Cond.instanceMethod yX5_nodeOf, Cond.selects RX5 yX5_nodeOf yX5_nodeOf, Cond.code yX5_nodeOf cX5_nodeOf 4 (some .int)]
def wsX5_cancelled : List Cond := .code yX5_cancelled cX5_cancelled 4 (some .int) :: ((wsX5_cancelled_r1 ++ (wsX5_cancelled_r2 ++ wsX5_cancelled_r3)) ++ wsX50)
def wsX5_goesDown_r1 : List Cond := [Cond.fieldLink RX5 13 "MajorityIndexModel" "slots" "I", Cond.fieldLink RX5 159 "MajorityIndexModel" "pathMany" "I", Cond.fieldLink RX5 101 "MajorityIndexModel" "nodes" "I", Cond.fieldLink RX5 38 "MajorityIndexModel" "nodeL" "[I", Cond.fieldLink RX5 41 "MajorityIndexModel" "nodeR" "[I", Cond.fieldLink RX5 59 "MajorityIndexModel" "path" "[I", Cond.methodLink RX5 124 yX5_laysAll, Cond.instanceMethod yX5_laysAll, Cond.selects RX5 yX5_laysAll yX5_laysAll, Cond.initialized RX5, Cond.code yX5_laysAll cX5_laysAll 2 none, Cond.fieldLink RX5 84 "MajorityIndexModel" "n" "I", Cond.methodLink RX5 107 yX5_lays, Cond.instanceMethod yX5_lays, Cond.selects RX5 yX5_lays yX5_lays, Cond.code yX5_lays cX5_lays 8 (some .int), Cond.fieldLink RX5 7 "MajorityIndexModel" "row" "[I", Cond.methodLink RX5 104 yX5_one, Cond.instanceMethod yX5_one, Cond.selects RX5 yX5_one yX5_one, Cond.code yX5_one cX5_one 3 none, Cond.fieldLink RX5 17 "MajorityIndexModel" "many" "[I", Cond.fieldLink RX5 20 "MajorityIndexModel" "loss" "[I", Cond.fieldLink RX5 23 "MajorityIndexModel" "less" "[I"]
def wsX5_goesDown_r2 : List Cond := [Cond.fieldLink RX5 26 "MajorityIndexModel" "voteValue" "[I", Cond.fieldLink RX5 29 "MajorityIndexModel" "voteNumber" "[I", Cond.methodLink RX5 111 yX5_together, Cond.instanceMethod yX5_together, Cond.selects RX5 yX5_together yX5_together, Cond.code yX5_together cX5_together 9 none, Cond.fieldLink RX5 87 "MajorityIndexModel" "allMany" "I", Cond.fieldLink RX5 35 "MajorityIndexModel" "allNumber" "[I", Cond.fieldLink RX5 32 "MajorityIndexModel" "allValue" "[I", Cond.methodLink RX5 94 yX5_adds, Cond.instanceMethod yX5_adds, Cond.selects RX5 yX5_adds yX5_adds, Cond.code yX5_adds cX5_adds 4 none, Cond.methodLink RX5 98 yX5_sorts, Cond.instanceMethod yX5_sorts, Cond.selects RX5 yX5_sorts yX5_sorts, Cond.code yX5_sorts cX5_sorts 4 none, Cond.methodLink RX5 90 yX5_isAhead, Cond.instanceMethod yX5_isAhead, Cond.selects RX5 yX5_isAhead yX5_isAhead, Cond.code yX5_isAhead cX5_isAhead 3 (some .boolean)]
def wsX5_goesDown : List Cond := .code yX5_goesDown cX5_goesDown 3 none :: ((wsX5_goesDown_r1 ++ wsX5_goesDown_r2) ++ wsX50)
def wsX5_above_r1 : List Cond := [Cond.fieldLink RX5 77 "MajorityIndexModel" "thrown" "I", Cond.fieldLink RX5 159 "MajorityIndexModel" "pathMany" "I", Cond.fieldLink RX5 38 "MajorityIndexModel" "nodeL" "[I", Cond.fieldLink RX5 59 "MajorityIndexModel" "path" "[I", Cond.fieldLink RX5 41 "MajorityIndexModel" "nodeR" "[I", Cond.fieldLink RX5 7 "MajorityIndexModel" "row" "[I", Cond.methodLink RX5 128 yX5_isPlace, Cond.instanceMethod yX5_isPlace, Cond.selects RX5 yX5_isPlace yX5_isPlace, Cond.initialized RX5, Cond.code yX5_isPlace cX5_isPlace 2 (some .boolean), Cond.fieldLink RX5 84 "MajorityIndexModel" "n" "I", Cond.methodLink RX5 80 yX5_within, Cond.static yX5_within, Cond.code yX5_within cX5_within 3 (some .boolean), Cond.methodLink RX5 162 yX5_goesDown, Cond.instanceMethod yX5_goesDown, Cond.selects RX5 yX5_goesDown yX5_goesDown, Cond.code yX5_goesDown cX5_goesDown 3 none, Cond.fieldLink RX5 13 "MajorityIndexModel" "slots" "I", Cond.fieldLink RX5 101 "MajorityIndexModel" "nodes" "I", Cond.methodLink RX5 124 yX5_laysAll, Cond.instanceMethod yX5_laysAll, Cond.selects RX5 yX5_laysAll yX5_laysAll]
def wsX5_above_r2 : List Cond := [Cond.code yX5_laysAll cX5_laysAll 2 none, Cond.methodLink RX5 107 yX5_lays, Cond.instanceMethod yX5_lays, Cond.selects RX5 yX5_lays yX5_lays, Cond.code yX5_lays cX5_lays 8 (some .int), Cond.methodLink RX5 104 yX5_one, Cond.instanceMethod yX5_one, Cond.selects RX5 yX5_one yX5_one, Cond.code yX5_one cX5_one 3 none, Cond.fieldLink RX5 17 "MajorityIndexModel" "many" "[I", Cond.fieldLink RX5 20 "MajorityIndexModel" "loss" "[I", Cond.fieldLink RX5 23 "MajorityIndexModel" "less" "[I", Cond.fieldLink RX5 26 "MajorityIndexModel" "voteValue" "[I", Cond.fieldLink RX5 29 "MajorityIndexModel" "voteNumber" "[I", Cond.methodLink RX5 111 yX5_together, Cond.instanceMethod yX5_together, Cond.selects RX5 yX5_together yX5_together, Cond.code yX5_together cX5_together 9 none, Cond.fieldLink RX5 87 "MajorityIndexModel" "allMany" "I", Cond.fieldLink RX5 35 "MajorityIndexModel" "allNumber" "[I", Cond.fieldLink RX5 32 "MajorityIndexModel" "allValue" "[I", Cond.methodLink RX5 94 yX5_adds, Cond.instanceMethod yX5_adds, Cond.selects RX5 yX5_adds yX5_adds]
def wsX5_above_r3 : List Cond := [Cond.code yX5_adds cX5_adds 4 none, Cond.methodLink RX5 98 yX5_sorts, Cond.instanceMethod yX5_sorts, Cond.selects RX5 yX5_sorts yX5_sorts, Cond.code yX5_sorts cX5_sorts 4 none, Cond.methodLink RX5 90 yX5_isAhead, Cond.instanceMethod yX5_isAhead, Cond.selects RX5 yX5_isAhead yX5_isAhead, Cond.code yX5_isAhead cX5_isAhead 3 (some .boolean), Cond.methodLink RX5 165 yX5_numberOf, Cond.instanceMethod yX5_numberOf, Cond.selects RX5 yX5_numberOf yX5_numberOf, Cond.code yX5_numberOf cX5_numberOf 4 (some .int)]
def wsX5_above : List Cond := .code yX5_above cX5_above 4 (some .int) :: ((wsX5_above_r1 ++ (wsX5_above_r2 ++ wsX5_above_r3)) ++ wsX50)
def wsX5_holds_r1 : List Cond := [Cond.fieldLink RX5 77 "MajorityIndexModel" "thrown" "I", Cond.fieldLink RX5 159 "MajorityIndexModel" "pathMany" "I", Cond.fieldLink RX5 59 "MajorityIndexModel" "path" "[I", Cond.fieldLink RX5 7 "MajorityIndexModel" "row" "[I", Cond.methodLink RX5 128 yX5_isPlace, Cond.instanceMethod yX5_isPlace, Cond.selects RX5 yX5_isPlace yX5_isPlace, Cond.initialized RX5, Cond.code yX5_isPlace cX5_isPlace 2 (some .boolean), Cond.fieldLink RX5 84 "MajorityIndexModel" "n" "I", Cond.methodLink RX5 80 yX5_within, Cond.static yX5_within, Cond.code yX5_within cX5_within 3 (some .boolean), Cond.methodLink RX5 162 yX5_goesDown, Cond.instanceMethod yX5_goesDown, Cond.selects RX5 yX5_goesDown yX5_goesDown, Cond.code yX5_goesDown cX5_goesDown 3 none, Cond.fieldLink RX5 13 "MajorityIndexModel" "slots" "I", Cond.fieldLink RX5 101 "MajorityIndexModel" "nodes" "I", Cond.fieldLink RX5 38 "MajorityIndexModel" "nodeL" "[I", Cond.fieldLink RX5 41 "MajorityIndexModel" "nodeR" "[I", Cond.methodLink RX5 124 yX5_laysAll, Cond.instanceMethod yX5_laysAll, Cond.selects RX5 yX5_laysAll yX5_laysAll]
def wsX5_holds_r2 : List Cond := [Cond.code yX5_laysAll cX5_laysAll 2 none, Cond.methodLink RX5 107 yX5_lays, Cond.instanceMethod yX5_lays, Cond.selects RX5 yX5_lays yX5_lays, Cond.code yX5_lays cX5_lays 8 (some .int), Cond.methodLink RX5 104 yX5_one, Cond.instanceMethod yX5_one, Cond.selects RX5 yX5_one yX5_one, Cond.code yX5_one cX5_one 3 none, Cond.fieldLink RX5 17 "MajorityIndexModel" "many" "[I", Cond.fieldLink RX5 20 "MajorityIndexModel" "loss" "[I", Cond.fieldLink RX5 23 "MajorityIndexModel" "less" "[I", Cond.fieldLink RX5 26 "MajorityIndexModel" "voteValue" "[I", Cond.fieldLink RX5 29 "MajorityIndexModel" "voteNumber" "[I", Cond.methodLink RX5 111 yX5_together, Cond.instanceMethod yX5_together, Cond.selects RX5 yX5_together yX5_together, Cond.code yX5_together cX5_together 9 none, Cond.fieldLink RX5 87 "MajorityIndexModel" "allMany" "I", Cond.fieldLink RX5 35 "MajorityIndexModel" "allNumber" "[I", Cond.fieldLink RX5 32 "MajorityIndexModel" "allValue" "[I", Cond.methodLink RX5 94 yX5_adds, Cond.instanceMethod yX5_adds, Cond.selects RX5 yX5_adds yX5_adds]
def wsX5_holds_r3 : List Cond := [Cond.code yX5_adds cX5_adds 4 none, Cond.methodLink RX5 98 yX5_sorts, Cond.instanceMethod yX5_sorts, Cond.selects RX5 yX5_sorts yX5_sorts, Cond.code yX5_sorts cX5_sorts 4 none, Cond.methodLink RX5 90 yX5_isAhead, Cond.instanceMethod yX5_isAhead, Cond.selects RX5 yX5_isAhead yX5_isAhead, Cond.code yX5_isAhead cX5_isAhead 3 (some .boolean), Cond.methodLink RX5 165 yX5_numberOf, Cond.instanceMethod yX5_numberOf, Cond.selects RX5 yX5_numberOf yX5_numberOf, Cond.code yX5_numberOf cX5_numberOf 4 (some .int)]
def wsX5_holds : List Cond := .code yX5_holds cX5_holds 3 (some .int) :: ((wsX5_holds_r1 ++ (wsX5_holds_r2 ++ wsX5_holds_r3)) ++ wsX50)
theorem mi_wsX5_asked_wsX5_asked_r1 : ∀ w ∈ wsX5_asked_r1, w ∈ wsX5_asked := fun _ h => (List.mem_cons_of_mem _ (List.mem_append_left _ (List.mem_append_left _ h)))
theorem mi_wsX5_asked_wsX50 : ∀ w ∈ wsX50, w ∈ wsX5_asked := fun _ h => (List.mem_cons_of_mem _ (List.mem_append_right _ h))
set_option maxRecDepth 20000 in
theorem ggX5_asked_X5_isRange : GoodIn wsX5_asked wsX5_isRange := goodIn_k _ [(wsX5_asked_r1, [5, 6]), (wsX50, [0, 1, 2, 3, 4, 5, 6, 7, 8, 9, 10, 11, 12, 13, 14, 15, 16, 17, 18, 19, 20, 21, 22, 23, 24, 25, 26, 27, 28, 29])] (gk_c mi_wsX5_asked_wsX5_asked_r1 (gk_c mi_wsX5_asked_wsX50 gk_n)) rfl (by decide +kernel)
set_option maxRecDepth 20000 in
theorem gX5_asked_X5_isRange : GoodIn wsX5_asked (wsV RX5 142 RX5 yX5_isRange wsX5_isRange) := goodIn_app (goodIn_k _ [(wsX5_asked_r1, [1, 2, 3, 4])] (gk_c mi_wsX5_asked_wsX5_asked_r1 gk_n) rfl (by decide +kernel)) ggX5_asked_X5_isRange
theorem mi_wsX5_asked_wsX5_asked_r2 : ∀ w ∈ wsX5_asked_r2, w ∈ wsX5_asked := fun _ h => (List.mem_cons_of_mem _ (List.mem_append_left _ (List.mem_append_right _ (List.mem_append_left _ h))))
set_option maxRecDepth 20000 in
theorem ggX5_asked_X5_laysAll : GoodIn wsX5_asked wsX5_laysAll := goodIn_k _ [(wsX5_asked_r1, [10, 11, 6, 12, 13, 14, 4, 15, 16, 17, 18, 19, 20, 21, 22, 23]), (wsX5_asked_r2, [0, 1, 2, 3, 4, 5, 6, 7, 8, 9, 10, 11, 12, 13, 14, 15, 16, 17, 18, 19, 20, 21, 22]), (wsX50, [0, 1, 2, 3, 4, 5, 6, 7, 8, 9, 10, 11, 12, 13, 14, 15, 16, 17, 18, 19, 20, 21, 22, 23, 24, 25, 26, 27, 28, 29])] (gk_c mi_wsX5_asked_wsX5_asked_r1 (gk_c mi_wsX5_asked_wsX5_asked_r2 (gk_c mi_wsX5_asked_wsX50 gk_n))) rfl (by decide +kernel)
set_option maxRecDepth 20000 in
theorem gX5_asked_X5_laysAll : GoodIn wsX5_asked (wsV RX5 124 RX5 yX5_laysAll wsX5_laysAll) := goodIn_app (goodIn_k _ [(wsX5_asked_r1, [7, 8, 9, 4])] (gk_c mi_wsX5_asked_wsX5_asked_r1 gk_n) rfl (by decide +kernel)) ggX5_asked_X5_laysAll
theorem mi_wsX5_asked_wsX5_asked_r3 : ∀ w ∈ wsX5_asked_r3, w ∈ wsX5_asked := fun _ h => (List.mem_cons_of_mem _ (List.mem_append_left _ (List.mem_append_right _ (List.mem_append_right _ h))))
set_option maxRecDepth 20000 in
theorem ggX5_asked_X5_nodeOf : GoodIn wsX5_asked wsX5_nodeOf := goodIn_k _ [(wsX5_asked_r3, [2]), (wsX5_asked_r1, [11, 16, 17]), (wsX50, [0, 1, 2, 3, 4, 5, 6, 7, 8, 9, 10, 11, 12, 13, 14, 15, 16, 17, 18, 19, 20, 21, 22, 23, 24, 25, 26, 27, 28, 29])] (gk_c mi_wsX5_asked_wsX5_asked_r3 (gk_c mi_wsX5_asked_wsX5_asked_r1 (gk_c mi_wsX5_asked_wsX50 gk_n))) rfl (by decide +kernel)
set_option maxRecDepth 20000 in
theorem gX5_asked_X5_nodeOf : GoodIn wsX5_asked (wsV RX5 152 RX5 yX5_nodeOf wsX5_nodeOf) := goodIn_app (goodIn_k _ [(wsX5_asked_r2, [23]), (wsX5_asked_r3, [0, 1]), (wsX5_asked_r1, [4])] (gk_c mi_wsX5_asked_wsX5_asked_r2 (gk_c mi_wsX5_asked_wsX5_asked_r3 (gk_c mi_wsX5_asked_wsX5_asked_r1 gk_n))) rfl (by decide +kernel)) ggX5_asked_X5_nodeOf
def dt_cX5_asked_0 : List (Nat × Instr × Nat) := [(0, .aload_n 0, 1), (1, .iload_n 1, 1), (2, .iload_n 2, 1), (3, .invokevirtual 142, 3), (6, .ifCond .ne 5, 3), (9, .iconst (-1), 1), (10, .ireturn, 1), (11, .aload_n 0, 1), (12, .aload_n 0, 1), (13, .getfield 13, 3), (16, .invokevirtual 124, 3), (19, .aload_n 0, 1), (20, .iload_n 1, 1), (21, .iload_n 2, 1), (22, .invokevirtual 152, 3), (25, .ireturn, 1)]
theorem da_cX5_asked_0 : dk_all cX5_asked dt_cX5_asked_0 = true := by decide +kernel
theorem dX5_asked_0 : decode cX5_asked 0 = .ok (.aload_n 0, 1) := dk_get _ da_cX5_asked_0 0 _ _ _ rfl
theorem dX5_asked_1 : decode cX5_asked 1 = .ok (.iload_n 1, 1) := dk_get _ da_cX5_asked_0 1 _ _ _ rfl
theorem dX5_asked_2 : decode cX5_asked 2 = .ok (.iload_n 2, 1) := dk_get _ da_cX5_asked_0 2 _ _ _ rfl
theorem dX5_asked_3 : decode cX5_asked 3 = .ok (.invokevirtual 142, 3) := dk_get _ da_cX5_asked_0 3 _ _ _ rfl
theorem dX5_asked_6 : decode cX5_asked 6 = .ok (.ifCond .ne 5, 3) := dk_get _ da_cX5_asked_0 4 _ _ _ rfl
theorem dX5_asked_9 : decode cX5_asked 9 = .ok (.iconst (-1), 1) := dk_get _ da_cX5_asked_0 5 _ _ _ rfl
theorem dX5_asked_10 : decode cX5_asked 10 = .ok (.ireturn, 1) := dk_get _ da_cX5_asked_0 6 _ _ _ rfl
theorem dX5_asked_11 : decode cX5_asked 11 = .ok (.aload_n 0, 1) := dk_get _ da_cX5_asked_0 7 _ _ _ rfl
theorem dX5_asked_12 : decode cX5_asked 12 = .ok (.aload_n 0, 1) := dk_get _ da_cX5_asked_0 8 _ _ _ rfl
theorem dX5_asked_13 : decode cX5_asked 13 = .ok (.getfield 13, 3) := dk_get _ da_cX5_asked_0 9 _ _ _ rfl
theorem dX5_asked_16 : decode cX5_asked 16 = .ok (.invokevirtual 124, 3) := dk_get _ da_cX5_asked_0 10 _ _ _ rfl
theorem dX5_asked_19 : decode cX5_asked 19 = .ok (.aload_n 0, 1) := dk_get _ da_cX5_asked_0 11 _ _ _ rfl
theorem dX5_asked_20 : decode cX5_asked 20 = .ok (.iload_n 1, 1) := dk_get _ da_cX5_asked_0 12 _ _ _ rfl
theorem dX5_asked_21 : decode cX5_asked 21 = .ok (.iload_n 2, 1) := dk_get _ da_cX5_asked_0 13 _ _ _ rfl
theorem dX5_asked_22 : decode cX5_asked 22 = .ok (.invokevirtual 152, 3) := dk_get _ da_cX5_asked_0 14 _ _ _ rfl
theorem dX5_asked_25 : decode cX5_asked 25 = .ok (.ireturn, 1) := dk_get _ da_cX5_asked_0 15 _ _ _ rfl
theorem mi_wsX5_node_wsX5_node_r1 : ∀ w ∈ wsX5_node_r1, w ∈ wsX5_node := fun _ h => (List.mem_cons_of_mem _ (List.mem_append_left _ (List.mem_append_left _ h)))
theorem mi_wsX5_node_wsX5_node_r2 : ∀ w ∈ wsX5_node_r2, w ∈ wsX5_node := fun _ h => (List.mem_cons_of_mem _ (List.mem_append_left _ (List.mem_append_right _ (List.mem_append_left _ h))))
theorem mi_wsX5_node_wsX5_node_r3 : ∀ w ∈ wsX5_node_r3, w ∈ wsX5_node := fun _ h => (List.mem_cons_of_mem _ (List.mem_append_left _ (List.mem_append_right _ (List.mem_append_right _ h))))
theorem mi_wsX5_node_wsX50 : ∀ w ∈ wsX50, w ∈ wsX5_node := fun _ h => (List.mem_cons_of_mem _ (List.mem_append_right _ h))
set_option maxRecDepth 20000 in
theorem ggX5_node_X5_asked : GoodIn wsX5_node wsX5_asked := goodIn_k _ [(wsX5_node_r1, [6, 7, 8, 9, 10, 5, 11, 12, 13, 14, 15, 16, 17, 18, 19, 20, 21, 22, 23]), (wsX5_node_r2, [0, 1, 2, 3, 4]), (wsX5_node_r1, [1]), (wsX5_node_r2, [5, 6, 7, 8, 9, 10, 11, 12, 13, 14, 15, 16, 17, 18, 19, 20, 21, 22, 23]), (wsX5_node_r3, [0, 1, 2, 3, 4, 5, 6, 7]), (wsX50, [0, 1, 2, 3, 4, 5, 6, 7, 8, 9, 10, 11, 12, 13, 14, 15, 16, 17, 18, 19, 20, 21, 22, 23, 24, 25, 26, 27, 28, 29])] (gk_c mi_wsX5_node_wsX5_node_r1 (gk_c mi_wsX5_node_wsX5_node_r2 (gk_c mi_wsX5_node_wsX5_node_r1 (gk_c mi_wsX5_node_wsX5_node_r2 (gk_c mi_wsX5_node_wsX5_node_r3 (gk_c mi_wsX5_node_wsX50 gk_n)))))) rfl (by decide +kernel)
set_option maxRecDepth 20000 in
theorem gX5_node_X5_asked : GoodIn wsX5_node (wsV RX5 156 RX5 yX5_asked wsX5_asked) := goodIn_app (goodIn_k _ [(wsX5_node_r1, [2, 3, 4, 5])] (gk_c mi_wsX5_node_wsX5_node_r1 gk_n) rfl (by decide +kernel)) ggX5_node_X5_asked
def dt_cX5_node_0 : List (Nat × Instr × Nat) := [(0, .aload_n 0, 1), (1, .iconst 0, 1), (2, .putfield 77, 3), (5, .aload_n 0, 1), (6, .iload_n 1, 1), (7, .iload_n 2, 1), (8, .invokevirtual 156, 3), (11, .istore_n 3, 1), (12, .iload_n 3, 1), (13, .ifCond .ge 7, 3), (16, .iload_n 3, 1), (17, .goto 9, 3), (20, .aload_n 0, 1), (21, .getfield 17, 3), (24, .iload_n 3, 1), (25, .iaload, 1), (26, .ireturn, 1)]
theorem da_cX5_node_0 : dk_all cX5_node dt_cX5_node_0 = true := by decide +kernel
theorem dX5_node_0 : decode cX5_node 0 = .ok (.aload_n 0, 1) := dk_get _ da_cX5_node_0 0 _ _ _ rfl
theorem dX5_node_1 : decode cX5_node 1 = .ok (.iconst 0, 1) := dk_get _ da_cX5_node_0 1 _ _ _ rfl
theorem dX5_node_2 : decode cX5_node 2 = .ok (.putfield 77, 3) := dk_get _ da_cX5_node_0 2 _ _ _ rfl
theorem dX5_node_5 : decode cX5_node 5 = .ok (.aload_n 0, 1) := dk_get _ da_cX5_node_0 3 _ _ _ rfl
theorem dX5_node_6 : decode cX5_node 6 = .ok (.iload_n 1, 1) := dk_get _ da_cX5_node_0 4 _ _ _ rfl
theorem dX5_node_7 : decode cX5_node 7 = .ok (.iload_n 2, 1) := dk_get _ da_cX5_node_0 5 _ _ _ rfl
theorem dX5_node_8 : decode cX5_node 8 = .ok (.invokevirtual 156, 3) := dk_get _ da_cX5_node_0 6 _ _ _ rfl
theorem dX5_node_11 : decode cX5_node 11 = .ok (.istore_n 3, 1) := dk_get _ da_cX5_node_0 7 _ _ _ rfl
theorem dX5_node_12 : decode cX5_node 12 = .ok (.iload_n 3, 1) := dk_get _ da_cX5_node_0 8 _ _ _ rfl
theorem dX5_node_13 : decode cX5_node 13 = .ok (.ifCond .ge 7, 3) := dk_get _ da_cX5_node_0 9 _ _ _ rfl
theorem dX5_node_16 : decode cX5_node 16 = .ok (.iload_n 3, 1) := dk_get _ da_cX5_node_0 10 _ _ _ rfl
theorem dX5_node_17 : decode cX5_node 17 = .ok (.goto 9, 3) := dk_get _ da_cX5_node_0 11 _ _ _ rfl
theorem dX5_node_20 : decode cX5_node 20 = .ok (.aload_n 0, 1) := dk_get _ da_cX5_node_0 12 _ _ _ rfl
theorem dX5_node_21 : decode cX5_node 21 = .ok (.getfield 17, 3) := dk_get _ da_cX5_node_0 13 _ _ _ rfl
theorem dX5_node_24 : decode cX5_node 24 = .ok (.iload_n 3, 1) := dk_get _ da_cX5_node_0 14 _ _ _ rfl
theorem dX5_node_25 : decode cX5_node 25 = .ok (.iaload, 1) := dk_get _ da_cX5_node_0 15 _ _ _ rfl
theorem dX5_node_26 : decode cX5_node 26 = .ok (.ireturn, 1) := dk_get _ da_cX5_node_0 16 _ _ _ rfl
theorem mi_wsX5_vote_wsX5_vote_r1 : ∀ w ∈ wsX5_vote_r1, w ∈ wsX5_vote := fun _ h => (List.mem_cons_of_mem _ (List.mem_append_left _ (List.mem_append_left _ h)))
theorem mi_wsX5_vote_wsX5_vote_r2 : ∀ w ∈ wsX5_vote_r2, w ∈ wsX5_vote := fun _ h => (List.mem_cons_of_mem _ (List.mem_append_left _ (List.mem_append_right _ (List.mem_append_left _ h))))
theorem mi_wsX5_vote_wsX5_vote_r3 : ∀ w ∈ wsX5_vote_r3, w ∈ wsX5_vote := fun _ h => (List.mem_cons_of_mem _ (List.mem_append_left _ (List.mem_append_right _ (List.mem_append_right _ h))))
theorem mi_wsX5_vote_wsX50 : ∀ w ∈ wsX50, w ∈ wsX5_vote := fun _ h => (List.mem_cons_of_mem _ (List.mem_append_right _ h))
set_option maxRecDepth 20000 in
theorem ggX5_vote_X5_asked : GoodIn wsX5_vote wsX5_asked := goodIn_k _ [(wsX5_vote_r1, [8, 9, 10, 11, 12, 7, 13, 14, 15, 16, 17, 18, 19, 20, 21, 22, 23]), (wsX5_vote_r2, [0, 1, 2, 3, 4, 5, 6]), (wsX5_vote_r1, [1]), (wsX5_vote_r2, [7, 8]), (wsX5_vote_r1, [2, 3]), (wsX5_vote_r2, [9, 10, 11, 12, 13, 14, 15, 16, 17, 18, 19, 20, 21, 22, 23]), (wsX5_vote_r3, [0, 1, 2, 3, 4, 5, 6, 7]), (wsX50, [0, 1, 2, 3, 4, 5, 6, 7, 8, 9, 10, 11, 12, 13, 14, 15, 16, 17, 18, 19, 20, 21, 22, 23, 24, 25, 26, 27, 28, 29])] (gk_c mi_wsX5_vote_wsX5_vote_r1 (gk_c mi_wsX5_vote_wsX5_vote_r2 (gk_c mi_wsX5_vote_wsX5_vote_r1 (gk_c mi_wsX5_vote_wsX5_vote_r2 (gk_c mi_wsX5_vote_wsX5_vote_r1 (gk_c mi_wsX5_vote_wsX5_vote_r2 (gk_c mi_wsX5_vote_wsX5_vote_r3 (gk_c mi_wsX5_vote_wsX50 gk_n)))))))) rfl (by decide +kernel)
set_option maxRecDepth 20000 in
theorem gX5_vote_X5_asked : GoodIn wsX5_vote (wsV RX5 156 RX5 yX5_asked wsX5_asked) := goodIn_app (goodIn_k _ [(wsX5_vote_r1, [4, 5, 6, 7])] (gk_c mi_wsX5_vote_wsX5_vote_r1 gk_n) rfl (by decide +kernel)) ggX5_vote_X5_asked
set_option maxRecDepth 20000 in
theorem ggX5_vote_X5_within : GoodIn wsX5_vote wsX5_within := goodIn_k _ [(wsX5_vote_r3, [10])] (gk_c mi_wsX5_vote_wsX5_vote_r3 gk_n) rfl (by decide +kernel)
set_option maxRecDepth 20000 in
theorem gX5_vote_X5_within : GoodIn wsX5_vote (va_wsS RX5 80 yX5_within wsX5_within) := goodIn_app (goodIn_k _ [(wsX5_vote_r3, [8, 9]), (wsX5_vote_r1, [7])] (gk_c mi_wsX5_vote_wsX5_vote_r3 (gk_c mi_wsX5_vote_wsX5_vote_r1 gk_n)) rfl (by decide +kernel)) ggX5_vote_X5_within
def dt_cX5_vote_0 : List (Nat × Instr × Nat) := [(0, .aload_n 0, 1), (1, .iconst 1, 1), (2, .putfield 77, 3), (5, .aload_n 0, 1), (6, .iload_n 1, 1), (7, .iload_n 2, 1), (8, .invokevirtual 156, 3), (11, .istore 5, 2), (13, .iload 5, 2), (15, .ifCond .lt 30, 3), (18, .iload_n 3, 1), (19, .iconst 0, 1), (20, .aload_n 0, 1), (21, .getfield 17, 3), (24, .iload 5, 2), (26, .iaload, 1), (27, .iconst 1, 1), (28, .isub, 1), (29, .invokestatic 80, 3), (32, .ifCond .eq 13, 3), (35, .iload 4, 2), (37, .iconst 0, 1), (38, .iconst 1, 1), (39, .invokestatic 80, 3), (42, .ifCond .ne 5, 3), (45, .iconst 0, 1), (46, .ireturn, 1), (47, .aload_n 0, 1), (48, .iconst 0, 1), (49, .putfield 77, 3), (52, .iload 4, 2), (54, .ifCond .ne 18, 3), (57, .aload_n 0, 1), (58, .getfield 26, 3), (61, .bipush 6, 2), (63, .iload 5, 2), (65, .imul, 1), (66, .iload_n 3, 1), (67, .iadd, 1), (68, .iaload, 1), (69, .goto 15, 3), (72, .aload_n 0, 1), (73, .getfield 29, 3), (76, .bipush 6, 2), (78, .iload 5, 2), (80, .imul, 1), (81, .iload_n 3, 1), (82, .iadd, 1), (83, .iaload, 1), (84, .ireturn, 1)]
theorem da_cX5_vote_0 : dk_all cX5_vote dt_cX5_vote_0 = true := by decide +kernel
theorem dX5_vote_0 : decode cX5_vote 0 = .ok (.aload_n 0, 1) := dk_get _ da_cX5_vote_0 0 _ _ _ rfl
theorem dX5_vote_1 : decode cX5_vote 1 = .ok (.iconst 1, 1) := dk_get _ da_cX5_vote_0 1 _ _ _ rfl
theorem dX5_vote_2 : decode cX5_vote 2 = .ok (.putfield 77, 3) := dk_get _ da_cX5_vote_0 2 _ _ _ rfl
theorem dX5_vote_5 : decode cX5_vote 5 = .ok (.aload_n 0, 1) := dk_get _ da_cX5_vote_0 3 _ _ _ rfl
theorem dX5_vote_6 : decode cX5_vote 6 = .ok (.iload_n 1, 1) := dk_get _ da_cX5_vote_0 4 _ _ _ rfl
theorem dX5_vote_7 : decode cX5_vote 7 = .ok (.iload_n 2, 1) := dk_get _ da_cX5_vote_0 5 _ _ _ rfl
theorem dX5_vote_8 : decode cX5_vote 8 = .ok (.invokevirtual 156, 3) := dk_get _ da_cX5_vote_0 6 _ _ _ rfl
theorem dX5_vote_11 : decode cX5_vote 11 = .ok (.istore 5, 2) := dk_get _ da_cX5_vote_0 7 _ _ _ rfl
theorem dX5_vote_13 : decode cX5_vote 13 = .ok (.iload 5, 2) := dk_get _ da_cX5_vote_0 8 _ _ _ rfl
theorem dX5_vote_15 : decode cX5_vote 15 = .ok (.ifCond .lt 30, 3) := dk_get _ da_cX5_vote_0 9 _ _ _ rfl
theorem dX5_vote_18 : decode cX5_vote 18 = .ok (.iload_n 3, 1) := dk_get _ da_cX5_vote_0 10 _ _ _ rfl
theorem dX5_vote_19 : decode cX5_vote 19 = .ok (.iconst 0, 1) := dk_get _ da_cX5_vote_0 11 _ _ _ rfl
theorem dX5_vote_20 : decode cX5_vote 20 = .ok (.aload_n 0, 1) := dk_get _ da_cX5_vote_0 12 _ _ _ rfl
theorem dX5_vote_21 : decode cX5_vote 21 = .ok (.getfield 17, 3) := dk_get _ da_cX5_vote_0 13 _ _ _ rfl
theorem dX5_vote_24 : decode cX5_vote 24 = .ok (.iload 5, 2) := dk_get _ da_cX5_vote_0 14 _ _ _ rfl
theorem dX5_vote_26 : decode cX5_vote 26 = .ok (.iaload, 1) := dk_get _ da_cX5_vote_0 15 _ _ _ rfl
theorem dX5_vote_27 : decode cX5_vote 27 = .ok (.iconst 1, 1) := dk_get _ da_cX5_vote_0 16 _ _ _ rfl
theorem dX5_vote_28 : decode cX5_vote 28 = .ok (.isub, 1) := dk_get _ da_cX5_vote_0 17 _ _ _ rfl
theorem dX5_vote_29 : decode cX5_vote 29 = .ok (.invokestatic 80, 3) := dk_get _ da_cX5_vote_0 18 _ _ _ rfl
theorem dX5_vote_32 : decode cX5_vote 32 = .ok (.ifCond .eq 13, 3) := dk_get _ da_cX5_vote_0 19 _ _ _ rfl
theorem dX5_vote_35 : decode cX5_vote 35 = .ok (.iload 4, 2) := dk_get _ da_cX5_vote_0 20 _ _ _ rfl
theorem dX5_vote_37 : decode cX5_vote 37 = .ok (.iconst 0, 1) := dk_get _ da_cX5_vote_0 21 _ _ _ rfl
theorem dX5_vote_38 : decode cX5_vote 38 = .ok (.iconst 1, 1) := dk_get _ da_cX5_vote_0 22 _ _ _ rfl
theorem dX5_vote_39 : decode cX5_vote 39 = .ok (.invokestatic 80, 3) := dk_get _ da_cX5_vote_0 23 _ _ _ rfl
theorem dX5_vote_42 : decode cX5_vote 42 = .ok (.ifCond .ne 5, 3) := dk_get _ da_cX5_vote_0 24 _ _ _ rfl
theorem dX5_vote_45 : decode cX5_vote 45 = .ok (.iconst 0, 1) := dk_get _ da_cX5_vote_0 25 _ _ _ rfl
theorem dX5_vote_46 : decode cX5_vote 46 = .ok (.ireturn, 1) := dk_get _ da_cX5_vote_0 26 _ _ _ rfl
theorem dX5_vote_47 : decode cX5_vote 47 = .ok (.aload_n 0, 1) := dk_get _ da_cX5_vote_0 27 _ _ _ rfl
theorem dX5_vote_48 : decode cX5_vote 48 = .ok (.iconst 0, 1) := dk_get _ da_cX5_vote_0 28 _ _ _ rfl
theorem dX5_vote_49 : decode cX5_vote 49 = .ok (.putfield 77, 3) := dk_get _ da_cX5_vote_0 29 _ _ _ rfl
theorem dX5_vote_52 : decode cX5_vote 52 = .ok (.iload 4, 2) := dk_get _ da_cX5_vote_0 30 _ _ _ rfl
theorem dX5_vote_54 : decode cX5_vote 54 = .ok (.ifCond .ne 18, 3) := dk_get _ da_cX5_vote_0 31 _ _ _ rfl
theorem dX5_vote_57 : decode cX5_vote 57 = .ok (.aload_n 0, 1) := dk_get _ da_cX5_vote_0 32 _ _ _ rfl
theorem dX5_vote_58 : decode cX5_vote 58 = .ok (.getfield 26, 3) := dk_get _ da_cX5_vote_0 33 _ _ _ rfl
theorem dX5_vote_61 : decode cX5_vote 61 = .ok (.bipush 6, 2) := dk_get _ da_cX5_vote_0 34 _ _ _ rfl
theorem dX5_vote_63 : decode cX5_vote 63 = .ok (.iload 5, 2) := dk_get _ da_cX5_vote_0 35 _ _ _ rfl
theorem dX5_vote_65 : decode cX5_vote 65 = .ok (.imul, 1) := dk_get _ da_cX5_vote_0 36 _ _ _ rfl
theorem dX5_vote_66 : decode cX5_vote 66 = .ok (.iload_n 3, 1) := dk_get _ da_cX5_vote_0 37 _ _ _ rfl
theorem dX5_vote_67 : decode cX5_vote 67 = .ok (.iadd, 1) := dk_get _ da_cX5_vote_0 38 _ _ _ rfl
theorem dX5_vote_68 : decode cX5_vote 68 = .ok (.iaload, 1) := dk_get _ da_cX5_vote_0 39 _ _ _ rfl
theorem dX5_vote_69 : decode cX5_vote 69 = .ok (.goto 15, 3) := dk_get _ da_cX5_vote_0 40 _ _ _ rfl
theorem dX5_vote_72 : decode cX5_vote 72 = .ok (.aload_n 0, 1) := dk_get _ da_cX5_vote_0 41 _ _ _ rfl
theorem dX5_vote_73 : decode cX5_vote 73 = .ok (.getfield 29, 3) := dk_get _ da_cX5_vote_0 42 _ _ _ rfl
theorem dX5_vote_76 : decode cX5_vote 76 = .ok (.bipush 6, 2) := dk_get _ da_cX5_vote_0 43 _ _ _ rfl
theorem dX5_vote_78 : decode cX5_vote 78 = .ok (.iload 5, 2) := dk_get _ da_cX5_vote_0 44 _ _ _ rfl
theorem dX5_vote_80 : decode cX5_vote 80 = .ok (.imul, 1) := dk_get _ da_cX5_vote_0 45 _ _ _ rfl
theorem dX5_vote_81 : decode cX5_vote 81 = .ok (.iload_n 3, 1) := dk_get _ da_cX5_vote_0 46 _ _ _ rfl
theorem dX5_vote_82 : decode cX5_vote 82 = .ok (.iadd, 1) := dk_get _ da_cX5_vote_0 47 _ _ _ rfl
theorem dX5_vote_83 : decode cX5_vote 83 = .ok (.iaload, 1) := dk_get _ da_cX5_vote_0 48 _ _ _ rfl
theorem dX5_vote_84 : decode cX5_vote 84 = .ok (.ireturn, 1) := dk_get _ da_cX5_vote_0 49 _ _ _ rfl
theorem mi_wsX5_loss_wsX5_loss_r1 : ∀ w ∈ wsX5_loss_r1, w ∈ wsX5_loss := fun _ h => (List.mem_cons_of_mem _ (List.mem_append_left _ (List.mem_append_left _ h)))
theorem mi_wsX5_loss_wsX5_loss_r2 : ∀ w ∈ wsX5_loss_r2, w ∈ wsX5_loss := fun _ h => (List.mem_cons_of_mem _ (List.mem_append_left _ (List.mem_append_right _ (List.mem_append_left _ h))))
theorem mi_wsX5_loss_wsX5_loss_r3 : ∀ w ∈ wsX5_loss_r3, w ∈ wsX5_loss := fun _ h => (List.mem_cons_of_mem _ (List.mem_append_left _ (List.mem_append_right _ (List.mem_append_right _ h))))
theorem mi_wsX5_loss_wsX50 : ∀ w ∈ wsX50, w ∈ wsX5_loss := fun _ h => (List.mem_cons_of_mem _ (List.mem_append_right _ h))
set_option maxRecDepth 20000 in
theorem ggX5_loss_X5_asked : GoodIn wsX5_loss wsX5_asked := goodIn_k _ [(wsX5_loss_r1, [6, 7, 8, 9, 10, 5, 11, 12, 13, 14, 15, 16, 17, 18, 19, 20, 21, 22, 23]), (wsX5_loss_r2, [0, 1, 2, 3, 4, 5]), (wsX5_loss_r1, [1]), (wsX5_loss_r2, [6, 7, 8, 9, 10, 11, 12, 13, 14, 15, 16, 17, 18, 19, 20, 21, 22, 23]), (wsX5_loss_r3, [0, 1, 2, 3, 4, 5, 6, 7]), (wsX50, [0, 1, 2, 3, 4, 5, 6, 7, 8, 9, 10, 11, 12, 13, 14, 15, 16, 17, 18, 19, 20, 21, 22, 23, 24, 25, 26, 27, 28, 29])] (gk_c mi_wsX5_loss_wsX5_loss_r1 (gk_c mi_wsX5_loss_wsX5_loss_r2 (gk_c mi_wsX5_loss_wsX5_loss_r1 (gk_c mi_wsX5_loss_wsX5_loss_r2 (gk_c mi_wsX5_loss_wsX5_loss_r3 (gk_c mi_wsX5_loss_wsX50 gk_n)))))) rfl (by decide +kernel)
set_option maxRecDepth 20000 in
theorem gX5_loss_X5_asked : GoodIn wsX5_loss (wsV RX5 156 RX5 yX5_asked wsX5_asked) := goodIn_app (goodIn_k _ [(wsX5_loss_r1, [2, 3, 4, 5])] (gk_c mi_wsX5_loss_wsX5_loss_r1 gk_n) rfl (by decide +kernel)) ggX5_loss_X5_asked
def dt_cX5_loss_0 : List (Nat × Instr × Nat) := [(0, .aload_n 0, 1), (1, .iconst 0, 1), (2, .putfield 77, 3), (5, .aload_n 0, 1), (6, .iload_n 1, 1), (7, .iload_n 2, 1), (8, .invokevirtual 156, 3), (11, .istore_n 3, 1), (12, .iload_n 3, 1), (13, .ifCond .ge 7, 3), (16, .iload_n 3, 1), (17, .goto 9, 3), (20, .aload_n 0, 1), (21, .getfield 20, 3), (24, .iload_n 3, 1), (25, .iaload, 1), (26, .ireturn, 1)]
theorem da_cX5_loss_0 : dk_all cX5_loss dt_cX5_loss_0 = true := by decide +kernel
theorem dX5_loss_0 : decode cX5_loss 0 = .ok (.aload_n 0, 1) := dk_get _ da_cX5_loss_0 0 _ _ _ rfl
theorem dX5_loss_1 : decode cX5_loss 1 = .ok (.iconst 0, 1) := dk_get _ da_cX5_loss_0 1 _ _ _ rfl
theorem dX5_loss_2 : decode cX5_loss 2 = .ok (.putfield 77, 3) := dk_get _ da_cX5_loss_0 2 _ _ _ rfl
theorem dX5_loss_5 : decode cX5_loss 5 = .ok (.aload_n 0, 1) := dk_get _ da_cX5_loss_0 3 _ _ _ rfl
theorem dX5_loss_6 : decode cX5_loss 6 = .ok (.iload_n 1, 1) := dk_get _ da_cX5_loss_0 4 _ _ _ rfl
theorem dX5_loss_7 : decode cX5_loss 7 = .ok (.iload_n 2, 1) := dk_get _ da_cX5_loss_0 5 _ _ _ rfl
theorem dX5_loss_8 : decode cX5_loss 8 = .ok (.invokevirtual 156, 3) := dk_get _ da_cX5_loss_0 6 _ _ _ rfl
theorem dX5_loss_11 : decode cX5_loss 11 = .ok (.istore_n 3, 1) := dk_get _ da_cX5_loss_0 7 _ _ _ rfl
theorem dX5_loss_12 : decode cX5_loss 12 = .ok (.iload_n 3, 1) := dk_get _ da_cX5_loss_0 8 _ _ _ rfl
theorem dX5_loss_13 : decode cX5_loss 13 = .ok (.ifCond .ge 7, 3) := dk_get _ da_cX5_loss_0 9 _ _ _ rfl
theorem dX5_loss_16 : decode cX5_loss 16 = .ok (.iload_n 3, 1) := dk_get _ da_cX5_loss_0 10 _ _ _ rfl
theorem dX5_loss_17 : decode cX5_loss 17 = .ok (.goto 9, 3) := dk_get _ da_cX5_loss_0 11 _ _ _ rfl
theorem dX5_loss_20 : decode cX5_loss 20 = .ok (.aload_n 0, 1) := dk_get _ da_cX5_loss_0 12 _ _ _ rfl
theorem dX5_loss_21 : decode cX5_loss 21 = .ok (.getfield 20, 3) := dk_get _ da_cX5_loss_0 13 _ _ _ rfl
theorem dX5_loss_24 : decode cX5_loss 24 = .ok (.iload_n 3, 1) := dk_get _ da_cX5_loss_0 14 _ _ _ rfl
theorem dX5_loss_25 : decode cX5_loss 25 = .ok (.iaload, 1) := dk_get _ da_cX5_loss_0 15 _ _ _ rfl
theorem dX5_loss_26 : decode cX5_loss 26 = .ok (.ireturn, 1) := dk_get _ da_cX5_loss_0 16 _ _ _ rfl
theorem mi_wsX5_cancelled_wsX5_cancelled_r1 : ∀ w ∈ wsX5_cancelled_r1, w ∈ wsX5_cancelled := fun _ h => (List.mem_cons_of_mem _ (List.mem_append_left _ (List.mem_append_left _ h)))
theorem mi_wsX5_cancelled_wsX5_cancelled_r2 : ∀ w ∈ wsX5_cancelled_r2, w ∈ wsX5_cancelled := fun _ h => (List.mem_cons_of_mem _ (List.mem_append_left _ (List.mem_append_right _ (List.mem_append_left _ h))))
theorem mi_wsX5_cancelled_wsX5_cancelled_r3 : ∀ w ∈ wsX5_cancelled_r3, w ∈ wsX5_cancelled := fun _ h => (List.mem_cons_of_mem _ (List.mem_append_left _ (List.mem_append_right _ (List.mem_append_right _ h))))
theorem mi_wsX5_cancelled_wsX50 : ∀ w ∈ wsX50, w ∈ wsX5_cancelled := fun _ h => (List.mem_cons_of_mem _ (List.mem_append_right _ h))
set_option maxRecDepth 20000 in
theorem ggX5_cancelled_X5_asked : GoodIn wsX5_cancelled wsX5_asked := goodIn_k _ [(wsX5_cancelled_r1, [6, 7, 8, 9, 10, 5, 11, 12, 13, 14, 15, 16, 17, 18, 19, 20, 21, 22, 23]), (wsX5_cancelled_r2, [0, 1, 2, 3, 4, 5, 6]), (wsX5_cancelled_r1, [1]), (wsX5_cancelled_r2, [7, 8, 9, 10, 11, 12, 13, 14, 15, 16, 17, 18, 19, 20, 21, 22, 23]), (wsX5_cancelled_r3, [0, 1, 2, 3, 4, 5, 6, 7]), (wsX50, [0, 1, 2, 3, 4, 5, 6, 7, 8, 9, 10, 11, 12, 13, 14, 15, 16, 17, 18, 19, 20, 21, 22, 23, 24, 25, 26, 27, 28, 29])] (gk_c mi_wsX5_cancelled_wsX5_cancelled_r1 (gk_c mi_wsX5_cancelled_wsX5_cancelled_r2 (gk_c mi_wsX5_cancelled_wsX5_cancelled_r1 (gk_c mi_wsX5_cancelled_wsX5_cancelled_r2 (gk_c mi_wsX5_cancelled_wsX5_cancelled_r3 (gk_c mi_wsX5_cancelled_wsX50 gk_n)))))) rfl (by decide +kernel)
set_option maxRecDepth 20000 in
theorem gX5_cancelled_X5_asked : GoodIn wsX5_cancelled (wsV RX5 156 RX5 yX5_asked wsX5_asked) := goodIn_app (goodIn_k _ [(wsX5_cancelled_r1, [2, 3, 4, 5])] (gk_c mi_wsX5_cancelled_wsX5_cancelled_r1 gk_n) rfl (by decide +kernel)) ggX5_cancelled_X5_asked
def dt_cX5_cancelled_0 : List (Nat × Instr × Nat) := [(0, .aload_n 0, 1), (1, .iconst 0, 1), (2, .putfield 77, 3), (5, .aload_n 0, 1), (6, .iload_n 1, 1), (7, .iload_n 2, 1), (8, .invokevirtual 156, 3), (11, .istore_n 3, 1), (12, .iload_n 3, 1), (13, .ifCond .ge 7, 3), (16, .iload_n 3, 1), (17, .goto 9, 3), (20, .aload_n 0, 1), (21, .getfield 23, 3), (24, .iload_n 3, 1), (25, .iaload, 1), (26, .ireturn, 1)]
theorem da_cX5_cancelled_0 : dk_all cX5_cancelled dt_cX5_cancelled_0 = true := by decide +kernel
theorem dX5_cancelled_0 : decode cX5_cancelled 0 = .ok (.aload_n 0, 1) := dk_get _ da_cX5_cancelled_0 0 _ _ _ rfl
theorem dX5_cancelled_1 : decode cX5_cancelled 1 = .ok (.iconst 0, 1) := dk_get _ da_cX5_cancelled_0 1 _ _ _ rfl
theorem dX5_cancelled_2 : decode cX5_cancelled 2 = .ok (.putfield 77, 3) := dk_get _ da_cX5_cancelled_0 2 _ _ _ rfl
theorem dX5_cancelled_5 : decode cX5_cancelled 5 = .ok (.aload_n 0, 1) := dk_get _ da_cX5_cancelled_0 3 _ _ _ rfl
theorem dX5_cancelled_6 : decode cX5_cancelled 6 = .ok (.iload_n 1, 1) := dk_get _ da_cX5_cancelled_0 4 _ _ _ rfl
theorem dX5_cancelled_7 : decode cX5_cancelled 7 = .ok (.iload_n 2, 1) := dk_get _ da_cX5_cancelled_0 5 _ _ _ rfl
theorem dX5_cancelled_8 : decode cX5_cancelled 8 = .ok (.invokevirtual 156, 3) := dk_get _ da_cX5_cancelled_0 6 _ _ _ rfl
theorem dX5_cancelled_11 : decode cX5_cancelled 11 = .ok (.istore_n 3, 1) := dk_get _ da_cX5_cancelled_0 7 _ _ _ rfl
theorem dX5_cancelled_12 : decode cX5_cancelled 12 = .ok (.iload_n 3, 1) := dk_get _ da_cX5_cancelled_0 8 _ _ _ rfl
theorem dX5_cancelled_13 : decode cX5_cancelled 13 = .ok (.ifCond .ge 7, 3) := dk_get _ da_cX5_cancelled_0 9 _ _ _ rfl
theorem dX5_cancelled_16 : decode cX5_cancelled 16 = .ok (.iload_n 3, 1) := dk_get _ da_cX5_cancelled_0 10 _ _ _ rfl
theorem dX5_cancelled_17 : decode cX5_cancelled 17 = .ok (.goto 9, 3) := dk_get _ da_cX5_cancelled_0 11 _ _ _ rfl
theorem dX5_cancelled_20 : decode cX5_cancelled 20 = .ok (.aload_n 0, 1) := dk_get _ da_cX5_cancelled_0 12 _ _ _ rfl
theorem dX5_cancelled_21 : decode cX5_cancelled 21 = .ok (.getfield 23, 3) := dk_get _ da_cX5_cancelled_0 13 _ _ _ rfl
theorem dX5_cancelled_24 : decode cX5_cancelled 24 = .ok (.iload_n 3, 1) := dk_get _ da_cX5_cancelled_0 14 _ _ _ rfl
theorem dX5_cancelled_25 : decode cX5_cancelled 25 = .ok (.iaload, 1) := dk_get _ da_cX5_cancelled_0 15 _ _ _ rfl
theorem dX5_cancelled_26 : decode cX5_cancelled 26 = .ok (.ireturn, 1) := dk_get _ da_cX5_cancelled_0 16 _ _ _ rfl
theorem mi_wsX5_goesDown_wsX5_goesDown_r1 : ∀ w ∈ wsX5_goesDown_r1, w ∈ wsX5_goesDown := fun _ h => (List.mem_cons_of_mem _ (List.mem_append_left _ (List.mem_append_left _ h)))
theorem mi_wsX5_goesDown_wsX5_goesDown_r2 : ∀ w ∈ wsX5_goesDown_r2, w ∈ wsX5_goesDown := fun _ h => (List.mem_cons_of_mem _ (List.mem_append_left _ (List.mem_append_right _ h)))
theorem mi_wsX5_goesDown_wsX50 : ∀ w ∈ wsX50, w ∈ wsX5_goesDown := fun _ h => (List.mem_cons_of_mem _ (List.mem_append_right _ h))
set_option maxRecDepth 20000 in
theorem ggX5_goesDown_X5_laysAll : GoodIn wsX5_goesDown wsX5_laysAll := goodIn_k _ [(wsX5_goesDown_r1, [10, 2, 11, 12, 13, 14, 9, 15, 3, 4, 16, 17, 18, 19, 20, 21, 22, 23]), (wsX5_goesDown_r2, [0, 1, 2, 3, 4, 5, 6, 7, 8, 9, 10, 11, 12, 13, 14, 15, 16, 17, 18, 19, 20]), (wsX50, [0, 1, 2, 3, 4, 5, 6, 7, 8, 9, 10, 11, 12, 13, 14, 15, 16, 17, 18, 19, 20, 21, 22, 23, 24, 25, 26, 27, 28, 29])] (gk_c mi_wsX5_goesDown_wsX5_goesDown_r1 (gk_c mi_wsX5_goesDown_wsX5_goesDown_r2 (gk_c mi_wsX5_goesDown_wsX50 gk_n))) rfl (by decide +kernel)
set_option maxRecDepth 20000 in
theorem gX5_goesDown_X5_laysAll : GoodIn wsX5_goesDown (wsV RX5 124 RX5 yX5_laysAll wsX5_laysAll) := goodIn_app (goodIn_k _ [(wsX5_goesDown_r1, [6, 7, 8, 9])] (gk_c mi_wsX5_goesDown_wsX5_goesDown_r1 gk_n) rfl (by decide +kernel)) ggX5_goesDown_X5_laysAll
def dt_cX5_goesDown_0 : List (Nat × Instr × Nat) := [(0, .aload_n 0, 1), (1, .aload_n 0, 1), (2, .getfield 13, 3), (5, .invokevirtual 124, 3), (8, .aload_n 0, 1), (9, .iconst 0, 1), (10, .putfield 159, 3), (13, .iconst 0, 1), (14, .istore_n 2, 1), (15, .iload_n 2, 1), (16, .aload_n 0, 1), (17, .getfield 101, 3), (20, .if_icmp .ge 52, 3), (23, .aload_n 0, 1), (24, .getfield 38, 3), (27, .iload_n 2, 1), (28, .iaload, 1), (29, .iload_n 1, 1), (30, .if_icmp .gt 36, 3), (33, .aload_n 0, 1), (34, .getfield 41, 3), (37, .iload_n 2, 1), (38, .iaload, 1), (39, .iload_n 1, 1), (40, .if_icmp .gt 6, 3), (43, .goto 23, 3), (46, .aload_n 0, 1), (47, .getfield 59, 3), (50, .aload_n 0, 1), (51, .getfield 159, 3), (54, .iload_n 2, 1), (55, .iastore, 1), (56, .aload_n 0, 1), (57, .dup, 1), (58, .getfield 159, 3), (61, .iconst 1, 1), (62, .iadd, 1), (63, .putfield 159, 3), (66, .iinc 2 1, 3), (69, .goto (-54), 3), (72, .return_, 1)]
theorem da_cX5_goesDown_0 : dk_all cX5_goesDown dt_cX5_goesDown_0 = true := by decide +kernel
theorem dX5_goesDown_0 : decode cX5_goesDown 0 = .ok (.aload_n 0, 1) := dk_get _ da_cX5_goesDown_0 0 _ _ _ rfl
theorem dX5_goesDown_1 : decode cX5_goesDown 1 = .ok (.aload_n 0, 1) := dk_get _ da_cX5_goesDown_0 1 _ _ _ rfl
theorem dX5_goesDown_2 : decode cX5_goesDown 2 = .ok (.getfield 13, 3) := dk_get _ da_cX5_goesDown_0 2 _ _ _ rfl
theorem dX5_goesDown_5 : decode cX5_goesDown 5 = .ok (.invokevirtual 124, 3) := dk_get _ da_cX5_goesDown_0 3 _ _ _ rfl
theorem dX5_goesDown_8 : decode cX5_goesDown 8 = .ok (.aload_n 0, 1) := dk_get _ da_cX5_goesDown_0 4 _ _ _ rfl
theorem dX5_goesDown_9 : decode cX5_goesDown 9 = .ok (.iconst 0, 1) := dk_get _ da_cX5_goesDown_0 5 _ _ _ rfl
theorem dX5_goesDown_10 : decode cX5_goesDown 10 = .ok (.putfield 159, 3) := dk_get _ da_cX5_goesDown_0 6 _ _ _ rfl
theorem dX5_goesDown_13 : decode cX5_goesDown 13 = .ok (.iconst 0, 1) := dk_get _ da_cX5_goesDown_0 7 _ _ _ rfl
theorem dX5_goesDown_14 : decode cX5_goesDown 14 = .ok (.istore_n 2, 1) := dk_get _ da_cX5_goesDown_0 8 _ _ _ rfl
theorem dX5_goesDown_15 : decode cX5_goesDown 15 = .ok (.iload_n 2, 1) := dk_get _ da_cX5_goesDown_0 9 _ _ _ rfl
theorem dX5_goesDown_16 : decode cX5_goesDown 16 = .ok (.aload_n 0, 1) := dk_get _ da_cX5_goesDown_0 10 _ _ _ rfl
theorem dX5_goesDown_17 : decode cX5_goesDown 17 = .ok (.getfield 101, 3) := dk_get _ da_cX5_goesDown_0 11 _ _ _ rfl
theorem dX5_goesDown_20 : decode cX5_goesDown 20 = .ok (.if_icmp .ge 52, 3) := dk_get _ da_cX5_goesDown_0 12 _ _ _ rfl
theorem dX5_goesDown_23 : decode cX5_goesDown 23 = .ok (.aload_n 0, 1) := dk_get _ da_cX5_goesDown_0 13 _ _ _ rfl
theorem dX5_goesDown_24 : decode cX5_goesDown 24 = .ok (.getfield 38, 3) := dk_get _ da_cX5_goesDown_0 14 _ _ _ rfl
theorem dX5_goesDown_27 : decode cX5_goesDown 27 = .ok (.iload_n 2, 1) := dk_get _ da_cX5_goesDown_0 15 _ _ _ rfl
theorem dX5_goesDown_28 : decode cX5_goesDown 28 = .ok (.iaload, 1) := dk_get _ da_cX5_goesDown_0 16 _ _ _ rfl
theorem dX5_goesDown_29 : decode cX5_goesDown 29 = .ok (.iload_n 1, 1) := dk_get _ da_cX5_goesDown_0 17 _ _ _ rfl
theorem dX5_goesDown_30 : decode cX5_goesDown 30 = .ok (.if_icmp .gt 36, 3) := dk_get _ da_cX5_goesDown_0 18 _ _ _ rfl
theorem dX5_goesDown_33 : decode cX5_goesDown 33 = .ok (.aload_n 0, 1) := dk_get _ da_cX5_goesDown_0 19 _ _ _ rfl
theorem dX5_goesDown_34 : decode cX5_goesDown 34 = .ok (.getfield 41, 3) := dk_get _ da_cX5_goesDown_0 20 _ _ _ rfl
theorem dX5_goesDown_37 : decode cX5_goesDown 37 = .ok (.iload_n 2, 1) := dk_get _ da_cX5_goesDown_0 21 _ _ _ rfl
theorem dX5_goesDown_38 : decode cX5_goesDown 38 = .ok (.iaload, 1) := dk_get _ da_cX5_goesDown_0 22 _ _ _ rfl
theorem dX5_goesDown_39 : decode cX5_goesDown 39 = .ok (.iload_n 1, 1) := dk_get _ da_cX5_goesDown_0 23 _ _ _ rfl
theorem dX5_goesDown_40 : decode cX5_goesDown 40 = .ok (.if_icmp .gt 6, 3) := dk_get _ da_cX5_goesDown_0 24 _ _ _ rfl
theorem dX5_goesDown_43 : decode cX5_goesDown 43 = .ok (.goto 23, 3) := dk_get _ da_cX5_goesDown_0 25 _ _ _ rfl
theorem dX5_goesDown_46 : decode cX5_goesDown 46 = .ok (.aload_n 0, 1) := dk_get _ da_cX5_goesDown_0 26 _ _ _ rfl
theorem dX5_goesDown_47 : decode cX5_goesDown 47 = .ok (.getfield 59, 3) := dk_get _ da_cX5_goesDown_0 27 _ _ _ rfl
theorem dX5_goesDown_50 : decode cX5_goesDown 50 = .ok (.aload_n 0, 1) := dk_get _ da_cX5_goesDown_0 28 _ _ _ rfl
theorem dX5_goesDown_51 : decode cX5_goesDown 51 = .ok (.getfield 159, 3) := dk_get _ da_cX5_goesDown_0 29 _ _ _ rfl
theorem dX5_goesDown_54 : decode cX5_goesDown 54 = .ok (.iload_n 2, 1) := dk_get _ da_cX5_goesDown_0 30 _ _ _ rfl
theorem dX5_goesDown_55 : decode cX5_goesDown 55 = .ok (.iastore, 1) := dk_get _ da_cX5_goesDown_0 31 _ _ _ rfl
theorem dX5_goesDown_56 : decode cX5_goesDown 56 = .ok (.aload_n 0, 1) := dk_get _ da_cX5_goesDown_0 32 _ _ _ rfl
theorem dX5_goesDown_57 : decode cX5_goesDown 57 = .ok (.dup, 1) := dk_get _ da_cX5_goesDown_0 33 _ _ _ rfl
theorem dX5_goesDown_58 : decode cX5_goesDown 58 = .ok (.getfield 159, 3) := dk_get _ da_cX5_goesDown_0 34 _ _ _ rfl
theorem dX5_goesDown_61 : decode cX5_goesDown 61 = .ok (.iconst 1, 1) := dk_get _ da_cX5_goesDown_0 35 _ _ _ rfl
theorem dX5_goesDown_62 : decode cX5_goesDown 62 = .ok (.iadd, 1) := dk_get _ da_cX5_goesDown_0 36 _ _ _ rfl
theorem dX5_goesDown_63 : decode cX5_goesDown 63 = .ok (.putfield 159, 3) := dk_get _ da_cX5_goesDown_0 37 _ _ _ rfl
theorem dX5_goesDown_66 : decode cX5_goesDown 66 = .ok (.iinc 2 1, 3) := dk_get _ da_cX5_goesDown_0 38 _ _ _ rfl
theorem dX5_goesDown_69 : decode cX5_goesDown 69 = .ok (.goto (-54), 3) := dk_get _ da_cX5_goesDown_0 39 _ _ _ rfl
theorem dX5_goesDown_72 : decode cX5_goesDown 72 = .ok (.return_, 1) := dk_get _ da_cX5_goesDown_0 40 _ _ _ rfl
theorem mi_wsX5_above_wsX5_above_r1 : ∀ w ∈ wsX5_above_r1, w ∈ wsX5_above := fun _ h => (List.mem_cons_of_mem _ (List.mem_append_left _ (List.mem_append_left _ h)))
theorem mi_wsX5_above_wsX50 : ∀ w ∈ wsX50, w ∈ wsX5_above := fun _ h => (List.mem_cons_of_mem _ (List.mem_append_right _ h))
set_option maxRecDepth 20000 in
theorem ggX5_above_X5_isPlace : GoodIn wsX5_above wsX5_isPlace := goodIn_k _ [(wsX5_above_r1, [10, 11, 12, 13, 9, 14]), (wsX50, [0, 1, 2, 3, 4, 5, 6, 7, 8, 9, 10, 11, 12, 13, 14, 15, 16, 17, 18, 19, 20, 21, 22, 23, 24, 25, 26, 27, 28, 29])] (gk_c mi_wsX5_above_wsX5_above_r1 (gk_c mi_wsX5_above_wsX50 gk_n)) rfl (by decide +kernel)
set_option maxRecDepth 20000 in
theorem gX5_above_X5_isPlace : GoodIn wsX5_above (wsV RX5 128 RX5 yX5_isPlace wsX5_isPlace) := goodIn_app (goodIn_k _ [(wsX5_above_r1, [6, 7, 8, 9])] (gk_c mi_wsX5_above_wsX5_above_r1 gk_n) rfl (by decide +kernel)) ggX5_above_X5_isPlace
set_option maxRecDepth 20000 in
theorem ggX5_above_X5_within : GoodIn wsX5_above wsX5_within := goodIn_k _ [(wsX5_above_r1, [14])] (gk_c mi_wsX5_above_wsX5_above_r1 gk_n) rfl (by decide +kernel)
set_option maxRecDepth 20000 in
theorem gX5_above_X5_within : GoodIn wsX5_above (va_wsS RX5 80 yX5_within wsX5_within) := goodIn_app (goodIn_k _ [(wsX5_above_r1, [12, 13, 9])] (gk_c mi_wsX5_above_wsX5_above_r1 gk_n) rfl (by decide +kernel)) ggX5_above_X5_within
theorem mi_wsX5_above_wsX5_above_r2 : ∀ w ∈ wsX5_above_r2, w ∈ wsX5_above := fun _ h => (List.mem_cons_of_mem _ (List.mem_append_left _ (List.mem_append_right _ (List.mem_append_left _ h))))
theorem mi_wsX5_above_wsX5_above_r3 : ∀ w ∈ wsX5_above_r3, w ∈ wsX5_above := fun _ h => (List.mem_cons_of_mem _ (List.mem_append_left _ (List.mem_append_right _ (List.mem_append_right _ h))))
set_option maxRecDepth 20000 in
theorem ggX5_above_X5_goesDown : GoodIn wsX5_above wsX5_goesDown := goodIn_k _ [(wsX5_above_r1, [18, 19, 1, 20, 2, 4, 3, 21, 22, 23, 9]), (wsX5_above_r2, [0]), (wsX5_above_r1, [11]), (wsX5_above_r2, [1, 2, 3, 4]), (wsX5_above_r1, [5]), (wsX5_above_r2, [5, 6, 7, 8, 9, 10, 11, 12, 13, 14, 15, 16, 17, 18, 19, 20, 21, 22, 23]), (wsX5_above_r3, [0, 1, 2, 3, 4, 5, 6, 7, 8]), (wsX50, [0, 1, 2, 3, 4, 5, 6, 7, 8, 9, 10, 11, 12, 13, 14, 15, 16, 17, 18, 19, 20, 21, 22, 23, 24, 25, 26, 27, 28, 29])] (gk_c mi_wsX5_above_wsX5_above_r1 (gk_c mi_wsX5_above_wsX5_above_r2 (gk_c mi_wsX5_above_wsX5_above_r1 (gk_c mi_wsX5_above_wsX5_above_r2 (gk_c mi_wsX5_above_wsX5_above_r1 (gk_c mi_wsX5_above_wsX5_above_r2 (gk_c mi_wsX5_above_wsX5_above_r3 (gk_c mi_wsX5_above_wsX50 gk_n)))))))) rfl (by decide +kernel)
set_option maxRecDepth 20000 in
theorem gX5_above_X5_goesDown : GoodIn wsX5_above (wsV RX5 162 RX5 yX5_goesDown wsX5_goesDown) := goodIn_app (goodIn_k _ [(wsX5_above_r1, [15, 16, 17, 9])] (gk_c mi_wsX5_above_wsX5_above_r1 gk_n) rfl (by decide +kernel)) ggX5_above_X5_goesDown
set_option maxRecDepth 20000 in
theorem ggX5_above_X5_numberOf : GoodIn wsX5_above wsX5_numberOf := goodIn_k _ [(wsX5_above_r3, [12]), (wsX5_above_r2, [9, 12, 13]), (wsX50, [0, 1, 2, 3, 4, 5, 6, 7, 8, 9, 10, 11, 12, 13, 14, 15, 16, 17, 18, 19, 20, 21, 22, 23, 24, 25, 26, 27, 28, 29])] (gk_c mi_wsX5_above_wsX5_above_r3 (gk_c mi_wsX5_above_wsX5_above_r2 (gk_c mi_wsX5_above_wsX50 gk_n))) rfl (by decide +kernel)
set_option maxRecDepth 20000 in
theorem gX5_above_X5_numberOf : GoodIn wsX5_above (wsV RX5 165 RX5 yX5_numberOf wsX5_numberOf) := goodIn_app (goodIn_k _ [(wsX5_above_r3, [9, 10, 11]), (wsX5_above_r1, [9])] (gk_c mi_wsX5_above_wsX5_above_r3 (gk_c mi_wsX5_above_wsX5_above_r1 gk_n)) rfl (by decide +kernel)) ggX5_above_X5_numberOf
def dt_cX5_above_0 : List (Nat × Instr × Nat) := [(0, .aload_n 0, 1), (1, .iconst 0, 1), (2, .putfield 77, 3), (5, .aload_n 0, 1), (6, .iload_n 1, 1), (7, .invokevirtual 128, 3), (10, .ifCond .eq 12, 3), (13, .iload_n 3, 1), (14, .iconst 0, 1), (15, .iconst 2, 1), (16, .invokestatic 80, 3), (19, .ifCond .ne 5, 3), (22, .iconst (-1), 1), (23, .ireturn, 1), (24, .aload_n 0, 1), (25, .iload_n 1, 1), (26, .invokevirtual 162, 3), (29, .iload_n 2, 1), (30, .iconst (-1), 1), (31, .if_icmp .ne 8, 3), (34, .aload_n 0, 1), (35, .getfield 159, 3), (38, .ireturn, 1), (39, .iload_n 2, 1), (40, .iconst 0, 1), (41, .aload_n 0, 1), (42, .getfield 159, 3), (45, .iconst 1, 1), (46, .isub, 1), (47, .invokestatic 80, 3), (50, .ifCond .ne 5, 3), (53, .iconst (-1), 1), (54, .ireturn, 1), (55, .iload_n 3, 1), (56, .ifCond .ne 17, 3), (59, .aload_n 0, 1), (60, .getfield 38, 3), (63, .aload_n 0, 1), (64, .getfield 59, 3), (67, .iload_n 2, 1), (68, .iaload, 1), (69, .iaload, 1), (70, .goto 38, 3), (73, .iload_n 3, 1), (74, .iconst 1, 1), (75, .if_icmp .ne 17, 3), (78, .aload_n 0, 1), (79, .getfield 41, 3), (82, .aload_n 0, 1), (83, .getfield 59, 3), (86, .iload_n 2, 1), (87, .iaload, 1), (88, .iaload, 1), (89, .goto 19, 3), (92, .aload_n 0, 1), (93, .aload_n 0, 1), (94, .getfield 59, 3), (97, .iload_n 2, 1), (98, .iaload, 1), (99, .aload_n 0, 1)]
theorem da_cX5_above_0 : dk_all cX5_above dt_cX5_above_0 = true := by decide +kernel
theorem dX5_above_0 : decode cX5_above 0 = .ok (.aload_n 0, 1) := dk_get _ da_cX5_above_0 0 _ _ _ rfl
theorem dX5_above_1 : decode cX5_above 1 = .ok (.iconst 0, 1) := dk_get _ da_cX5_above_0 1 _ _ _ rfl
theorem dX5_above_2 : decode cX5_above 2 = .ok (.putfield 77, 3) := dk_get _ da_cX5_above_0 2 _ _ _ rfl
theorem dX5_above_5 : decode cX5_above 5 = .ok (.aload_n 0, 1) := dk_get _ da_cX5_above_0 3 _ _ _ rfl
theorem dX5_above_6 : decode cX5_above 6 = .ok (.iload_n 1, 1) := dk_get _ da_cX5_above_0 4 _ _ _ rfl
theorem dX5_above_7 : decode cX5_above 7 = .ok (.invokevirtual 128, 3) := dk_get _ da_cX5_above_0 5 _ _ _ rfl
theorem dX5_above_10 : decode cX5_above 10 = .ok (.ifCond .eq 12, 3) := dk_get _ da_cX5_above_0 6 _ _ _ rfl
theorem dX5_above_13 : decode cX5_above 13 = .ok (.iload_n 3, 1) := dk_get _ da_cX5_above_0 7 _ _ _ rfl
theorem dX5_above_14 : decode cX5_above 14 = .ok (.iconst 0, 1) := dk_get _ da_cX5_above_0 8 _ _ _ rfl
theorem dX5_above_15 : decode cX5_above 15 = .ok (.iconst 2, 1) := dk_get _ da_cX5_above_0 9 _ _ _ rfl
theorem dX5_above_16 : decode cX5_above 16 = .ok (.invokestatic 80, 3) := dk_get _ da_cX5_above_0 10 _ _ _ rfl
theorem dX5_above_19 : decode cX5_above 19 = .ok (.ifCond .ne 5, 3) := dk_get _ da_cX5_above_0 11 _ _ _ rfl
theorem dX5_above_22 : decode cX5_above 22 = .ok (.iconst (-1), 1) := dk_get _ da_cX5_above_0 12 _ _ _ rfl
theorem dX5_above_23 : decode cX5_above 23 = .ok (.ireturn, 1) := dk_get _ da_cX5_above_0 13 _ _ _ rfl
theorem dX5_above_24 : decode cX5_above 24 = .ok (.aload_n 0, 1) := dk_get _ da_cX5_above_0 14 _ _ _ rfl
theorem dX5_above_25 : decode cX5_above 25 = .ok (.iload_n 1, 1) := dk_get _ da_cX5_above_0 15 _ _ _ rfl
theorem dX5_above_26 : decode cX5_above 26 = .ok (.invokevirtual 162, 3) := dk_get _ da_cX5_above_0 16 _ _ _ rfl
theorem dX5_above_29 : decode cX5_above 29 = .ok (.iload_n 2, 1) := dk_get _ da_cX5_above_0 17 _ _ _ rfl
theorem dX5_above_30 : decode cX5_above 30 = .ok (.iconst (-1), 1) := dk_get _ da_cX5_above_0 18 _ _ _ rfl
theorem dX5_above_31 : decode cX5_above 31 = .ok (.if_icmp .ne 8, 3) := dk_get _ da_cX5_above_0 19 _ _ _ rfl
theorem dX5_above_34 : decode cX5_above 34 = .ok (.aload_n 0, 1) := dk_get _ da_cX5_above_0 20 _ _ _ rfl
theorem dX5_above_35 : decode cX5_above 35 = .ok (.getfield 159, 3) := dk_get _ da_cX5_above_0 21 _ _ _ rfl
theorem dX5_above_38 : decode cX5_above 38 = .ok (.ireturn, 1) := dk_get _ da_cX5_above_0 22 _ _ _ rfl
theorem dX5_above_39 : decode cX5_above 39 = .ok (.iload_n 2, 1) := dk_get _ da_cX5_above_0 23 _ _ _ rfl
theorem dX5_above_40 : decode cX5_above 40 = .ok (.iconst 0, 1) := dk_get _ da_cX5_above_0 24 _ _ _ rfl
theorem dX5_above_41 : decode cX5_above 41 = .ok (.aload_n 0, 1) := dk_get _ da_cX5_above_0 25 _ _ _ rfl
theorem dX5_above_42 : decode cX5_above 42 = .ok (.getfield 159, 3) := dk_get _ da_cX5_above_0 26 _ _ _ rfl
theorem dX5_above_45 : decode cX5_above 45 = .ok (.iconst 1, 1) := dk_get _ da_cX5_above_0 27 _ _ _ rfl
theorem dX5_above_46 : decode cX5_above 46 = .ok (.isub, 1) := dk_get _ da_cX5_above_0 28 _ _ _ rfl
theorem dX5_above_47 : decode cX5_above 47 = .ok (.invokestatic 80, 3) := dk_get _ da_cX5_above_0 29 _ _ _ rfl
theorem dX5_above_50 : decode cX5_above 50 = .ok (.ifCond .ne 5, 3) := dk_get _ da_cX5_above_0 30 _ _ _ rfl
theorem dX5_above_53 : decode cX5_above 53 = .ok (.iconst (-1), 1) := dk_get _ da_cX5_above_0 31 _ _ _ rfl
theorem dX5_above_54 : decode cX5_above 54 = .ok (.ireturn, 1) := dk_get _ da_cX5_above_0 32 _ _ _ rfl
theorem dX5_above_55 : decode cX5_above 55 = .ok (.iload_n 3, 1) := dk_get _ da_cX5_above_0 33 _ _ _ rfl
theorem dX5_above_56 : decode cX5_above 56 = .ok (.ifCond .ne 17, 3) := dk_get _ da_cX5_above_0 34 _ _ _ rfl
theorem dX5_above_59 : decode cX5_above 59 = .ok (.aload_n 0, 1) := dk_get _ da_cX5_above_0 35 _ _ _ rfl
theorem dX5_above_60 : decode cX5_above 60 = .ok (.getfield 38, 3) := dk_get _ da_cX5_above_0 36 _ _ _ rfl
theorem dX5_above_63 : decode cX5_above 63 = .ok (.aload_n 0, 1) := dk_get _ da_cX5_above_0 37 _ _ _ rfl
theorem dX5_above_64 : decode cX5_above 64 = .ok (.getfield 59, 3) := dk_get _ da_cX5_above_0 38 _ _ _ rfl
theorem dX5_above_67 : decode cX5_above 67 = .ok (.iload_n 2, 1) := dk_get _ da_cX5_above_0 39 _ _ _ rfl
theorem dX5_above_68 : decode cX5_above 68 = .ok (.iaload, 1) := dk_get _ da_cX5_above_0 40 _ _ _ rfl
theorem dX5_above_69 : decode cX5_above 69 = .ok (.iaload, 1) := dk_get _ da_cX5_above_0 41 _ _ _ rfl
theorem dX5_above_70 : decode cX5_above 70 = .ok (.goto 38, 3) := dk_get _ da_cX5_above_0 42 _ _ _ rfl
theorem dX5_above_73 : decode cX5_above 73 = .ok (.iload_n 3, 1) := dk_get _ da_cX5_above_0 43 _ _ _ rfl
theorem dX5_above_74 : decode cX5_above 74 = .ok (.iconst 1, 1) := dk_get _ da_cX5_above_0 44 _ _ _ rfl
theorem dX5_above_75 : decode cX5_above 75 = .ok (.if_icmp .ne 17, 3) := dk_get _ da_cX5_above_0 45 _ _ _ rfl
theorem dX5_above_78 : decode cX5_above 78 = .ok (.aload_n 0, 1) := dk_get _ da_cX5_above_0 46 _ _ _ rfl
theorem dX5_above_79 : decode cX5_above 79 = .ok (.getfield 41, 3) := dk_get _ da_cX5_above_0 47 _ _ _ rfl
theorem dX5_above_82 : decode cX5_above 82 = .ok (.aload_n 0, 1) := dk_get _ da_cX5_above_0 48 _ _ _ rfl
theorem dX5_above_83 : decode cX5_above 83 = .ok (.getfield 59, 3) := dk_get _ da_cX5_above_0 49 _ _ _ rfl
theorem dX5_above_86 : decode cX5_above 86 = .ok (.iload_n 2, 1) := dk_get _ da_cX5_above_0 50 _ _ _ rfl
theorem dX5_above_87 : decode cX5_above 87 = .ok (.iaload, 1) := dk_get _ da_cX5_above_0 51 _ _ _ rfl
theorem dX5_above_88 : decode cX5_above 88 = .ok (.iaload, 1) := dk_get _ da_cX5_above_0 52 _ _ _ rfl
theorem dX5_above_89 : decode cX5_above 89 = .ok (.goto 19, 3) := dk_get _ da_cX5_above_0 53 _ _ _ rfl
theorem dX5_above_92 : decode cX5_above 92 = .ok (.aload_n 0, 1) := dk_get _ da_cX5_above_0 54 _ _ _ rfl
theorem dX5_above_93 : decode cX5_above 93 = .ok (.aload_n 0, 1) := dk_get _ da_cX5_above_0 55 _ _ _ rfl
theorem dX5_above_94 : decode cX5_above 94 = .ok (.getfield 59, 3) := dk_get _ da_cX5_above_0 56 _ _ _ rfl
theorem dX5_above_97 : decode cX5_above 97 = .ok (.iload_n 2, 1) := dk_get _ da_cX5_above_0 57 _ _ _ rfl
theorem dX5_above_98 : decode cX5_above 98 = .ok (.iaload, 1) := dk_get _ da_cX5_above_0 58 _ _ _ rfl
theorem dX5_above_99 : decode cX5_above 99 = .ok (.aload_n 0, 1) := dk_get _ da_cX5_above_0 59 _ _ _ rfl
def dt_cX5_above_1 : List (Nat × Instr × Nat) := [(100, .getfield 7, 3), (103, .iload_n 1, 1), (104, .iaload, 1), (105, .invokevirtual 165, 3), (108, .ireturn, 1)]
theorem da_cX5_above_1 : dk_all cX5_above dt_cX5_above_1 = true := by decide +kernel
theorem dX5_above_100 : decode cX5_above 100 = .ok (.getfield 7, 3) := dk_get _ da_cX5_above_1 0 _ _ _ rfl
theorem dX5_above_103 : decode cX5_above 103 = .ok (.iload_n 1, 1) := dk_get _ da_cX5_above_1 1 _ _ _ rfl
theorem dX5_above_104 : decode cX5_above 104 = .ok (.iaload, 1) := dk_get _ da_cX5_above_1 2 _ _ _ rfl
theorem dX5_above_105 : decode cX5_above 105 = .ok (.invokevirtual 165, 3) := dk_get _ da_cX5_above_1 3 _ _ _ rfl
theorem dX5_above_108 : decode cX5_above 108 = .ok (.ireturn, 1) := dk_get _ da_cX5_above_1 4 _ _ _ rfl
theorem mi_wsX5_holds_wsX5_holds_r1 : ∀ w ∈ wsX5_holds_r1, w ∈ wsX5_holds := fun _ h => (List.mem_cons_of_mem _ (List.mem_append_left _ (List.mem_append_left _ h)))
theorem mi_wsX5_holds_wsX50 : ∀ w ∈ wsX50, w ∈ wsX5_holds := fun _ h => (List.mem_cons_of_mem _ (List.mem_append_right _ h))
set_option maxRecDepth 20000 in
theorem ggX5_holds_X5_isPlace : GoodIn wsX5_holds wsX5_isPlace := goodIn_k _ [(wsX5_holds_r1, [8, 9, 10, 11, 7, 12]), (wsX50, [0, 1, 2, 3, 4, 5, 6, 7, 8, 9, 10, 11, 12, 13, 14, 15, 16, 17, 18, 19, 20, 21, 22, 23, 24, 25, 26, 27, 28, 29])] (gk_c mi_wsX5_holds_wsX5_holds_r1 (gk_c mi_wsX5_holds_wsX50 gk_n)) rfl (by decide +kernel)
set_option maxRecDepth 20000 in
theorem gX5_holds_X5_isPlace : GoodIn wsX5_holds (wsV RX5 128 RX5 yX5_isPlace wsX5_isPlace) := goodIn_app (goodIn_k _ [(wsX5_holds_r1, [4, 5, 6, 7])] (gk_c mi_wsX5_holds_wsX5_holds_r1 gk_n) rfl (by decide +kernel)) ggX5_holds_X5_isPlace
theorem mi_wsX5_holds_wsX5_holds_r2 : ∀ w ∈ wsX5_holds_r2, w ∈ wsX5_holds := fun _ h => (List.mem_cons_of_mem _ (List.mem_append_left _ (List.mem_append_right _ (List.mem_append_left _ h))))
theorem mi_wsX5_holds_wsX5_holds_r3 : ∀ w ∈ wsX5_holds_r3, w ∈ wsX5_holds := fun _ h => (List.mem_cons_of_mem _ (List.mem_append_left _ (List.mem_append_right _ (List.mem_append_right _ h))))
set_option maxRecDepth 20000 in
theorem ggX5_holds_X5_goesDown : GoodIn wsX5_holds wsX5_goesDown := goodIn_k _ [(wsX5_holds_r1, [16, 17, 1, 18, 19, 20, 2, 21, 22, 23, 7]), (wsX5_holds_r2, [0]), (wsX5_holds_r1, [9]), (wsX5_holds_r2, [1, 2, 3, 4]), (wsX5_holds_r1, [3]), (wsX5_holds_r2, [5, 6, 7, 8, 9, 10, 11, 12, 13, 14, 15, 16, 17, 18, 19, 20, 21, 22, 23]), (wsX5_holds_r3, [0, 1, 2, 3, 4, 5, 6, 7, 8]), (wsX50, [0, 1, 2, 3, 4, 5, 6, 7, 8, 9, 10, 11, 12, 13, 14, 15, 16, 17, 18, 19, 20, 21, 22, 23, 24, 25, 26, 27, 28, 29])] (gk_c mi_wsX5_holds_wsX5_holds_r1 (gk_c mi_wsX5_holds_wsX5_holds_r2 (gk_c mi_wsX5_holds_wsX5_holds_r1 (gk_c mi_wsX5_holds_wsX5_holds_r2 (gk_c mi_wsX5_holds_wsX5_holds_r1 (gk_c mi_wsX5_holds_wsX5_holds_r2 (gk_c mi_wsX5_holds_wsX5_holds_r3 (gk_c mi_wsX5_holds_wsX50 gk_n)))))))) rfl (by decide +kernel)
set_option maxRecDepth 20000 in
theorem gX5_holds_X5_goesDown : GoodIn wsX5_holds (wsV RX5 162 RX5 yX5_goesDown wsX5_goesDown) := goodIn_app (goodIn_k _ [(wsX5_holds_r1, [13, 14, 15, 7])] (gk_c mi_wsX5_holds_wsX5_holds_r1 gk_n) rfl (by decide +kernel)) ggX5_holds_X5_goesDown
set_option maxRecDepth 20000 in
theorem ggX5_holds_X5_numberOf : GoodIn wsX5_holds wsX5_numberOf := goodIn_k _ [(wsX5_holds_r3, [12]), (wsX5_holds_r2, [9, 12, 13]), (wsX50, [0, 1, 2, 3, 4, 5, 6, 7, 8, 9, 10, 11, 12, 13, 14, 15, 16, 17, 18, 19, 20, 21, 22, 23, 24, 25, 26, 27, 28, 29])] (gk_c mi_wsX5_holds_wsX5_holds_r3 (gk_c mi_wsX5_holds_wsX5_holds_r2 (gk_c mi_wsX5_holds_wsX50 gk_n))) rfl (by decide +kernel)
set_option maxRecDepth 20000 in
theorem gX5_holds_X5_numberOf : GoodIn wsX5_holds (wsV RX5 165 RX5 yX5_numberOf wsX5_numberOf) := goodIn_app (goodIn_k _ [(wsX5_holds_r3, [9, 10, 11]), (wsX5_holds_r1, [7])] (gk_c mi_wsX5_holds_wsX5_holds_r3 (gk_c mi_wsX5_holds_wsX5_holds_r1 gk_n)) rfl (by decide +kernel)) ggX5_holds_X5_numberOf
def dt_cX5_holds_0 : List (Nat × Instr × Nat) := [(0, .aload_n 0, 1), (1, .iconst 0, 1), (2, .putfield 77, 3), (5, .aload_n 0, 1), (6, .iload_n 1, 1), (7, .invokevirtual 128, 3), (10, .ifCond .ne 5, 3), (13, .iconst (-1), 1), (14, .ireturn, 1), (15, .aload_n 0, 1), (16, .iload_n 1, 1), (17, .invokevirtual 162, 3), (20, .iconst 0, 1), (21, .istore_n 2, 1), (22, .iload_n 2, 1), (23, .aload_n 0, 1), (24, .getfield 159, 3), (27, .if_icmp .ge 35, 3), (30, .aload_n 0, 1), (31, .aload_n 0, 1), (32, .getfield 59, 3), (35, .aload_n 0, 1), (36, .getfield 159, 3), (39, .iconst 1, 1), (40, .isub, 1), (41, .iload_n 2, 1), (42, .isub, 1), (43, .iaload, 1), (44, .aload_n 0, 1), (45, .getfield 7, 3), (48, .iload_n 1, 1), (49, .iaload, 1), (50, .invokevirtual 165, 3), (53, .ifCond .le 9, 3), (56, .iinc 2 1, 3), (59, .goto (-37), 3), (62, .iload_n 2, 1), (63, .ireturn, 1)]
theorem da_cX5_holds_0 : dk_all cX5_holds dt_cX5_holds_0 = true := by decide +kernel
theorem dX5_holds_0 : decode cX5_holds 0 = .ok (.aload_n 0, 1) := dk_get _ da_cX5_holds_0 0 _ _ _ rfl
theorem dX5_holds_1 : decode cX5_holds 1 = .ok (.iconst 0, 1) := dk_get _ da_cX5_holds_0 1 _ _ _ rfl
theorem dX5_holds_2 : decode cX5_holds 2 = .ok (.putfield 77, 3) := dk_get _ da_cX5_holds_0 2 _ _ _ rfl
theorem dX5_holds_5 : decode cX5_holds 5 = .ok (.aload_n 0, 1) := dk_get _ da_cX5_holds_0 3 _ _ _ rfl
theorem dX5_holds_6 : decode cX5_holds 6 = .ok (.iload_n 1, 1) := dk_get _ da_cX5_holds_0 4 _ _ _ rfl
theorem dX5_holds_7 : decode cX5_holds 7 = .ok (.invokevirtual 128, 3) := dk_get _ da_cX5_holds_0 5 _ _ _ rfl
theorem dX5_holds_10 : decode cX5_holds 10 = .ok (.ifCond .ne 5, 3) := dk_get _ da_cX5_holds_0 6 _ _ _ rfl
theorem dX5_holds_13 : decode cX5_holds 13 = .ok (.iconst (-1), 1) := dk_get _ da_cX5_holds_0 7 _ _ _ rfl
theorem dX5_holds_14 : decode cX5_holds 14 = .ok (.ireturn, 1) := dk_get _ da_cX5_holds_0 8 _ _ _ rfl
theorem dX5_holds_15 : decode cX5_holds 15 = .ok (.aload_n 0, 1) := dk_get _ da_cX5_holds_0 9 _ _ _ rfl
theorem dX5_holds_16 : decode cX5_holds 16 = .ok (.iload_n 1, 1) := dk_get _ da_cX5_holds_0 10 _ _ _ rfl
theorem dX5_holds_17 : decode cX5_holds 17 = .ok (.invokevirtual 162, 3) := dk_get _ da_cX5_holds_0 11 _ _ _ rfl
theorem dX5_holds_20 : decode cX5_holds 20 = .ok (.iconst 0, 1) := dk_get _ da_cX5_holds_0 12 _ _ _ rfl
theorem dX5_holds_21 : decode cX5_holds 21 = .ok (.istore_n 2, 1) := dk_get _ da_cX5_holds_0 13 _ _ _ rfl
theorem dX5_holds_22 : decode cX5_holds 22 = .ok (.iload_n 2, 1) := dk_get _ da_cX5_holds_0 14 _ _ _ rfl
theorem dX5_holds_23 : decode cX5_holds 23 = .ok (.aload_n 0, 1) := dk_get _ da_cX5_holds_0 15 _ _ _ rfl
theorem dX5_holds_24 : decode cX5_holds 24 = .ok (.getfield 159, 3) := dk_get _ da_cX5_holds_0 16 _ _ _ rfl
theorem dX5_holds_27 : decode cX5_holds 27 = .ok (.if_icmp .ge 35, 3) := dk_get _ da_cX5_holds_0 17 _ _ _ rfl
theorem dX5_holds_30 : decode cX5_holds 30 = .ok (.aload_n 0, 1) := dk_get _ da_cX5_holds_0 18 _ _ _ rfl
theorem dX5_holds_31 : decode cX5_holds 31 = .ok (.aload_n 0, 1) := dk_get _ da_cX5_holds_0 19 _ _ _ rfl
theorem dX5_holds_32 : decode cX5_holds 32 = .ok (.getfield 59, 3) := dk_get _ da_cX5_holds_0 20 _ _ _ rfl
theorem dX5_holds_35 : decode cX5_holds 35 = .ok (.aload_n 0, 1) := dk_get _ da_cX5_holds_0 21 _ _ _ rfl
theorem dX5_holds_36 : decode cX5_holds 36 = .ok (.getfield 159, 3) := dk_get _ da_cX5_holds_0 22 _ _ _ rfl
theorem dX5_holds_39 : decode cX5_holds 39 = .ok (.iconst 1, 1) := dk_get _ da_cX5_holds_0 23 _ _ _ rfl
theorem dX5_holds_40 : decode cX5_holds 40 = .ok (.isub, 1) := dk_get _ da_cX5_holds_0 24 _ _ _ rfl
theorem dX5_holds_41 : decode cX5_holds 41 = .ok (.iload_n 2, 1) := dk_get _ da_cX5_holds_0 25 _ _ _ rfl
theorem dX5_holds_42 : decode cX5_holds 42 = .ok (.isub, 1) := dk_get _ da_cX5_holds_0 26 _ _ _ rfl
theorem dX5_holds_43 : decode cX5_holds 43 = .ok (.iaload, 1) := dk_get _ da_cX5_holds_0 27 _ _ _ rfl
theorem dX5_holds_44 : decode cX5_holds 44 = .ok (.aload_n 0, 1) := dk_get _ da_cX5_holds_0 28 _ _ _ rfl
theorem dX5_holds_45 : decode cX5_holds 45 = .ok (.getfield 7, 3) := dk_get _ da_cX5_holds_0 29 _ _ _ rfl
theorem dX5_holds_48 : decode cX5_holds 48 = .ok (.iload_n 1, 1) := dk_get _ da_cX5_holds_0 30 _ _ _ rfl
theorem dX5_holds_49 : decode cX5_holds 49 = .ok (.iaload, 1) := dk_get _ da_cX5_holds_0 31 _ _ _ rfl
theorem dX5_holds_50 : decode cX5_holds 50 = .ok (.invokevirtual 165, 3) := dk_get _ da_cX5_holds_0 32 _ _ _ rfl
theorem dX5_holds_53 : decode cX5_holds 53 = .ok (.ifCond .le 9, 3) := dk_get _ da_cX5_holds_0 33 _ _ _ rfl
theorem dX5_holds_56 : decode cX5_holds 56 = .ok (.iinc 2 1, 3) := dk_get _ da_cX5_holds_0 34 _ _ _ rfl
theorem dX5_holds_59 : decode cX5_holds 59 = .ok (.goto (-37), 3) := dk_get _ da_cX5_holds_0 35 _ _ _ rfl
theorem dX5_holds_62 : decode cX5_holds 62 = .ok (.iload_n 2, 1) := dk_get _ da_cX5_holds_0 36 _ _ _ rfl
theorem dX5_holds_63 : decode cX5_holds 63 = .ok (.ireturn, 1) := dk_get _ da_cX5_holds_0 37 _ _ _ rfl

