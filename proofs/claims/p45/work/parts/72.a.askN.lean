abbrev cX4_node : ByteArray := prog_1_method_15_code
def yX4_node : MethodName := ⟨RX4, "node", "(II)I"⟩
abbrev cX4_loss : ByteArray := prog_1_method_17_code
def yX4_loss : MethodName := ⟨RX4, "loss", "(II)I"⟩
abbrev cX4_cancelled : ByteArray := prog_1_method_18_code
def yX4_cancelled : MethodName := ⟨RX4, "cancelled", "(II)I"⟩
abbrev cX4_above : ByteArray := prog_1_method_19_code
def yX4_above : MethodName := ⟨RX4, "above", "(III)I"⟩
abbrev cX4_holds : ByteArray := prog_1_method_20_code
def yX4_holds : MethodName := ⟨RX4, "holds", "(I)I"⟩
abbrev cX4_parts : ByteArray := prog_1_method_21_code
def yX4_parts : MethodName := ⟨RX4, "parts", "(II)I"⟩
abbrev cX4_part : ByteArray := prog_1_method_22_code
def yX4_part : MethodName := ⟨RX4, "part", "(IIII)I"⟩
abbrev cX4_summary : ByteArray := prog_1_method_23_code
def yX4_summary : MethodName := ⟨RX4, "summary", "(III)I"⟩
abbrev cX4_lost : ByteArray := prog_1_method_25_code
def yX4_lost : MethodName := ⟨RX4, "lost", "(III)I"⟩
abbrev cX4_surely : ByteArray := prog_1_method_26_code
def yX4_surely : MethodName := ⟨RX4, "surely", "(II)I"⟩
abbrev cX4_heavy : ByteArray := prog_1_method_27_code
def yX4_heavy : MethodName := ⟨RX4, "heavy", "(IIII)I"⟩
abbrev cX4_failed : ByteArray := prog_1_method_29_code
def yX4_failed : MethodName := ⟨RX4, "failed", "(IIII)I"⟩
abbrev cX4_isEnough : ByteArray := prog_1_method_49_code
def yX4_isEnough : MethodName := ⟨RX4, "isEnough", "(II)Z"⟩
abbrev cX4_gatherHeavy : ByteArray := prog_1_method_53_code
def yX4_gatherHeavy : MethodName := ⟨RX4, "gatherHeavy", "(LMajorityIndex$Tree;IIII)V"⟩
def wsX4_node_r1 : List Cond := [Cond.fieldLink RX4 12 "MajorityIndex" "row" "LMajorityIndex$Row;", Cond.fieldLink RX4 126 "MajorityIndex$Tree" "size" "[I", Cond.methodLink RX4 79 yX0_hasRange, Cond.instanceMethod yX0_hasRange, Cond.selects RX0 yX0_hasRange yX0_hasRange, Cond.initialized RX0, Cond.code yX0_hasRange cX0_hasRange 3 (some .boolean), Cond.fieldLink RX0 15 "MajorityIndex$Row" "length" "I", Cond.methodLink RX4 71 yX4_laidTree, Cond.instanceMethod yX4_laidTree, Cond.selects RX4 yX4_laidTree yX4_laidTree, Cond.initialized RX4, Cond.code yX4_laidTree cX4_laidTree 1 (some (.object "MajorityIndex$Tree")), Cond.fieldLink RX4 53 "MajorityIndex" "treeIsOld" "Z", Cond.fieldLink RX4 21 "MajorityIndex" "tree" "LMajorityIndex$Tree;", Cond.fieldLink RX4 49 "MajorityIndex" "slotsNow" "I", Cond.fieldLink RX4 204 "MajorityIndex$Tree" "slotsHere" "I", Cond.fieldLink RX4 57 "MajorityIndex$Row" "length" "I", Cond.methodLink RX4 259 yX2_layRanges, Cond.instanceMethod yX2_layRanges, Cond.selects RX2 yX2_layRanges yX2_layRanges, Cond.initialized RX2, Cond.code yX2_layRanges cX2_layRanges 2 none, Cond.fieldLink RX2 40 "MajorityIndex$Tree" "row" "LMajorityIndex$Row;"]
def wsX4_node_r2 : List Cond := [Cond.fieldLink RX2 44 "MajorityIndex$Row" "length" "I", Cond.fieldLink RX2 50 "MajorityIndex$Tree" "nodes" "I", Cond.fieldLink RX2 18 "MajorityIndex$Tree" "from" "[I", Cond.fieldLink RX2 22 "MajorityIndex$Tree" "to" "[I", Cond.methodLink RX2 53 yX2_layBelow, Cond.instanceMethod yX2_layBelow, Cond.selects RX2 yX2_layBelow yX2_layBelow, Cond.code yX2_layBelow cX2_layBelow 4 none, Cond.methodLink RX2 57 yX2_rightBelow, Cond.instanceMethod yX2_rightBelow, Cond.selects RX2 yX2_rightBelow yX2_rightBelow, Cond.code yX2_rightBelow cX2_rightBelow 3 (some .int), Cond.methodLink RX4 87 yX2_renew, Cond.instanceMethod yX2_renew, Cond.selects RX2 yX2_renew yX2_renew, Cond.code yX2_renew cX2_renew 5 (some .int), Cond.methodLink RX2 61 yX2_putTogether, Cond.instanceMethod yX2_putTogether, Cond.selects RX2 yX2_putTogether yX2_putTogether, Cond.code yX2_putTogether cX2_putTogether 2 none, Cond.fieldLink RX2 12 "MajorityIndex$Tree" "joined" "LMajorityIndex$Votes;", Cond.fieldLink RX2 74 "MajorityIndex$Row" "cell" "[I", Cond.fieldLink RX2 85 "MajorityIndex$Tree" "slotsHere" "I", Cond.methodLink RX2 71 yX3_clear]
def wsX4_node_r3 : List Cond := [Cond.instanceMethod yX3_clear, Cond.selects RX3 yX3_clear yX3_clear, Cond.initialized RX3, Cond.code yX3_clear cX3_clear 1 none, Cond.fieldLink RX3 18 "MajorityIndex$Votes" "size" "I", Cond.fieldLink RX3 22 "MajorityIndex$Votes" "lost" "I", Cond.fieldLink RX3 25 "MajorityIndex$Votes" "lessBy" "I", Cond.methodLink RX2 77 yX3_add, Cond.instanceMethod yX3_add, Cond.selects RX3 yX3_add yX3_add, Cond.code yX3_add cX3_add 4 none, Cond.fieldLink RX3 9 "MajorityIndex$Votes" "value" "[I", Cond.fieldLink RX3 15 "MajorityIndex$Votes" "number" "[I", Cond.methodLink RX2 81 yX2_joinNode, Cond.instanceMethod yX2_joinNode, Cond.selects RX2 yX2_joinNode yX2_joinNode, Cond.code yX2_joinNode cX2_joinNode 5 none, Cond.fieldLink RX2 25 "MajorityIndex$Tree" "size" "[I", Cond.fieldLink RX2 34 "MajorityIndex$Tree" "value" "[I", Cond.fieldLink RX2 37 "MajorityIndex$Tree" "number" "[I", Cond.fieldLink RX2 91 "MajorityIndex$Votes" "lost" "I", Cond.fieldLink RX2 28 "MajorityIndex$Tree" "lossOf" "[I", Cond.methodLink RX2 88 yX3_cancel, Cond.instanceMethod yX3_cancel]
def wsX4_node_r4 : List Cond := [Cond.selects RX3 yX3_cancel yX3_cancel, Cond.code yX3_cancel cX3_cancel 4 none, Cond.methodLink RX3 32 yX3_order, Cond.instanceMethod yX3_order, Cond.selects RX3 yX3_order yX3_order, Cond.code yX3_order cX3_order 3 none, Cond.methodLink RX3 35 yX3_isAhead, Cond.instanceMethod yX3_isAhead, Cond.selects RX3 yX3_isAhead yX3_isAhead, Cond.code yX3_isAhead cX3_isAhead 3 (some .boolean), Cond.methodLink RX3 39 yX3_exchange, Cond.instanceMethod yX3_exchange, Cond.selects RX3 yX3_exchange yX3_exchange, Cond.code yX3_exchange cX3_exchange 5 none, Cond.methodLink RX2 64 yX2_isJoined, Cond.instanceMethod yX2_isJoined, Cond.selects RX2 yX2_isJoined yX2_isJoined, Cond.code yX2_isJoined cX2_isJoined 4 (some .boolean), Cond.fieldLink RX2 94 "MajorityIndex$Votes" "size" "I", Cond.fieldLink RX2 96 "MajorityIndex$Votes" "value" "[I", Cond.fieldLink RX2 97 "MajorityIndex$Votes" "number" "[I", Cond.methodLink RX2 68 yX2_keepJoined, Cond.instanceMethod yX2_keepJoined, Cond.selects RX2 yX2_keepJoined yX2_keepJoined]
def wsX4_node_r5 : List Cond := [Cond.code yX2_keepJoined cX2_keepJoined 4 none, Cond.methodLink RX2 98 Lib.Math.min.name, Cond.static Lib.Math.min.name, Cond.initialized "java/lang/Math", Cond.code Lib.Math.min.name Lib.Math.min.code 2 (some .int), Cond.fieldLink RX2 31 "MajorityIndex$Tree" "lessBy" "[I", Cond.fieldLink RX2 104 "MajorityIndex$Votes" "lessBy" "I", Cond.methodLink RX4 123 yX2_find, Cond.instanceMethod yX2_find, Cond.selects RX2 yX2_find yX2_find, Cond.code yX2_find cX2_find 4 (some .int)]
def wsX4_node : List Cond := .code yX4_node cX4_node 5 (some .int) :: ((wsX4_node_r1 ++ (wsX4_node_r2 ++ (wsX4_node_r3 ++ (wsX4_node_r4 ++ wsX4_node_r5)))) ++ wsX40 ++ wsX20 ++ wsX00 ++ wsX30)
def wsX4_loss_r1 : List Cond := [Cond.fieldLink RX4 12 "MajorityIndex" "row" "LMajorityIndex$Row;", Cond.fieldLink RX4 139 "MajorityIndex$Tree" "lossOf" "[I", Cond.methodLink RX4 79 yX0_hasRange, Cond.instanceMethod yX0_hasRange, Cond.selects RX0 yX0_hasRange yX0_hasRange, Cond.initialized RX0, Cond.code yX0_hasRange cX0_hasRange 3 (some .boolean), Cond.fieldLink RX0 15 "MajorityIndex$Row" "length" "I", Cond.methodLink RX4 71 yX4_laidTree, Cond.instanceMethod yX4_laidTree, Cond.selects RX4 yX4_laidTree yX4_laidTree, Cond.initialized RX4, Cond.code yX4_laidTree cX4_laidTree 1 (some (.object "MajorityIndex$Tree")), Cond.fieldLink RX4 53 "MajorityIndex" "treeIsOld" "Z", Cond.fieldLink RX4 21 "MajorityIndex" "tree" "LMajorityIndex$Tree;", Cond.fieldLink RX4 49 "MajorityIndex" "slotsNow" "I", Cond.fieldLink RX4 204 "MajorityIndex$Tree" "slotsHere" "I", Cond.fieldLink RX4 57 "MajorityIndex$Row" "length" "I", Cond.methodLink RX4 259 yX2_layRanges, Cond.instanceMethod yX2_layRanges, Cond.selects RX2 yX2_layRanges yX2_layRanges, Cond.initialized RX2, Cond.code yX2_layRanges cX2_layRanges 2 none, Cond.fieldLink RX2 40 "MajorityIndex$Tree" "row" "LMajorityIndex$Row;"]
def wsX4_loss_r2 : List Cond := [Cond.fieldLink RX2 44 "MajorityIndex$Row" "length" "I", Cond.fieldLink RX2 50 "MajorityIndex$Tree" "nodes" "I", Cond.fieldLink RX2 18 "MajorityIndex$Tree" "from" "[I", Cond.fieldLink RX2 22 "MajorityIndex$Tree" "to" "[I", Cond.methodLink RX2 53 yX2_layBelow, Cond.instanceMethod yX2_layBelow, Cond.selects RX2 yX2_layBelow yX2_layBelow, Cond.code yX2_layBelow cX2_layBelow 4 none, Cond.methodLink RX2 57 yX2_rightBelow, Cond.instanceMethod yX2_rightBelow, Cond.selects RX2 yX2_rightBelow yX2_rightBelow, Cond.code yX2_rightBelow cX2_rightBelow 3 (some .int), Cond.methodLink RX4 87 yX2_renew, Cond.instanceMethod yX2_renew, Cond.selects RX2 yX2_renew yX2_renew, Cond.code yX2_renew cX2_renew 5 (some .int), Cond.methodLink RX2 61 yX2_putTogether, Cond.instanceMethod yX2_putTogether, Cond.selects RX2 yX2_putTogether yX2_putTogether, Cond.code yX2_putTogether cX2_putTogether 2 none, Cond.fieldLink RX2 12 "MajorityIndex$Tree" "joined" "LMajorityIndex$Votes;", Cond.fieldLink RX2 74 "MajorityIndex$Row" "cell" "[I", Cond.fieldLink RX2 85 "MajorityIndex$Tree" "slotsHere" "I", Cond.methodLink RX2 71 yX3_clear]
def wsX4_loss_r3 : List Cond := [Cond.instanceMethod yX3_clear, Cond.selects RX3 yX3_clear yX3_clear, Cond.initialized RX3, Cond.code yX3_clear cX3_clear 1 none, Cond.fieldLink RX3 18 "MajorityIndex$Votes" "size" "I", Cond.fieldLink RX3 22 "MajorityIndex$Votes" "lost" "I", Cond.fieldLink RX3 25 "MajorityIndex$Votes" "lessBy" "I", Cond.methodLink RX2 77 yX3_add, Cond.instanceMethod yX3_add, Cond.selects RX3 yX3_add yX3_add, Cond.code yX3_add cX3_add 4 none, Cond.fieldLink RX3 9 "MajorityIndex$Votes" "value" "[I", Cond.fieldLink RX3 15 "MajorityIndex$Votes" "number" "[I", Cond.methodLink RX2 81 yX2_joinNode, Cond.instanceMethod yX2_joinNode, Cond.selects RX2 yX2_joinNode yX2_joinNode, Cond.code yX2_joinNode cX2_joinNode 5 none, Cond.fieldLink RX2 25 "MajorityIndex$Tree" "size" "[I", Cond.fieldLink RX2 34 "MajorityIndex$Tree" "value" "[I", Cond.fieldLink RX2 37 "MajorityIndex$Tree" "number" "[I", Cond.fieldLink RX2 91 "MajorityIndex$Votes" "lost" "I", Cond.fieldLink RX2 28 "MajorityIndex$Tree" "lossOf" "[I", Cond.methodLink RX2 88 yX3_cancel, Cond.instanceMethod yX3_cancel]
def wsX4_loss_r4 : List Cond := [Cond.selects RX3 yX3_cancel yX3_cancel, Cond.code yX3_cancel cX3_cancel 4 none, Cond.methodLink RX3 32 yX3_order, Cond.instanceMethod yX3_order, Cond.selects RX3 yX3_order yX3_order, Cond.code yX3_order cX3_order 3 none, Cond.methodLink RX3 35 yX3_isAhead, Cond.instanceMethod yX3_isAhead, Cond.selects RX3 yX3_isAhead yX3_isAhead, Cond.code yX3_isAhead cX3_isAhead 3 (some .boolean), Cond.methodLink RX3 39 yX3_exchange, Cond.instanceMethod yX3_exchange, Cond.selects RX3 yX3_exchange yX3_exchange, Cond.code yX3_exchange cX3_exchange 5 none, Cond.methodLink RX2 64 yX2_isJoined, Cond.instanceMethod yX2_isJoined, Cond.selects RX2 yX2_isJoined yX2_isJoined, Cond.code yX2_isJoined cX2_isJoined 4 (some .boolean), Cond.fieldLink RX2 94 "MajorityIndex$Votes" "size" "I", Cond.fieldLink RX2 96 "MajorityIndex$Votes" "value" "[I", Cond.fieldLink RX2 97 "MajorityIndex$Votes" "number" "[I", Cond.methodLink RX2 68 yX2_keepJoined, Cond.instanceMethod yX2_keepJoined, Cond.selects RX2 yX2_keepJoined yX2_keepJoined]
def wsX4_loss_r5 : List Cond := [Cond.code yX2_keepJoined cX2_keepJoined 4 none, Cond.methodLink RX2 98 Lib.Math.min.name, Cond.static Lib.Math.min.name, Cond.initialized "java/lang/Math", Cond.code Lib.Math.min.name Lib.Math.min.code 2 (some .int), Cond.fieldLink RX2 31 "MajorityIndex$Tree" "lessBy" "[I", Cond.fieldLink RX2 104 "MajorityIndex$Votes" "lessBy" "I", Cond.methodLink RX4 123 yX2_find, Cond.instanceMethod yX2_find, Cond.selects RX2 yX2_find yX2_find, Cond.code yX2_find cX2_find 4 (some .int)]
def wsX4_loss : List Cond := .code yX4_loss cX4_loss 5 (some .int) :: ((wsX4_loss_r1 ++ (wsX4_loss_r2 ++ (wsX4_loss_r3 ++ (wsX4_loss_r4 ++ wsX4_loss_r5)))) ++ wsX40 ++ wsX20 ++ wsX00 ++ wsX30)
def wsX4_cancelled_r1 : List Cond := [Cond.fieldLink RX4 12 "MajorityIndex" "row" "LMajorityIndex$Row;", Cond.fieldLink RX4 142 "MajorityIndex$Tree" "lessBy" "[I", Cond.methodLink RX4 79 yX0_hasRange, Cond.instanceMethod yX0_hasRange, Cond.selects RX0 yX0_hasRange yX0_hasRange, Cond.initialized RX0, Cond.code yX0_hasRange cX0_hasRange 3 (some .boolean), Cond.fieldLink RX0 15 "MajorityIndex$Row" "length" "I", Cond.methodLink RX4 71 yX4_laidTree, Cond.instanceMethod yX4_laidTree, Cond.selects RX4 yX4_laidTree yX4_laidTree, Cond.initialized RX4, Cond.code yX4_laidTree cX4_laidTree 1 (some (.object "MajorityIndex$Tree")), Cond.fieldLink RX4 53 "MajorityIndex" "treeIsOld" "Z", Cond.fieldLink RX4 21 "MajorityIndex" "tree" "LMajorityIndex$Tree;", Cond.fieldLink RX4 49 "MajorityIndex" "slotsNow" "I", Cond.fieldLink RX4 204 "MajorityIndex$Tree" "slotsHere" "I", Cond.fieldLink RX4 57 "MajorityIndex$Row" "length" "I", Cond.methodLink RX4 259 yX2_layRanges, Cond.instanceMethod yX2_layRanges, Cond.selects RX2 yX2_layRanges yX2_layRanges, Cond.initialized RX2, Cond.code yX2_layRanges cX2_layRanges 2 none, Cond.fieldLink RX2 40 "MajorityIndex$Tree" "row" "LMajorityIndex$Row;"]
def wsX4_cancelled_r2 : List Cond := [Cond.fieldLink RX2 44 "MajorityIndex$Row" "length" "I", Cond.fieldLink RX2 50 "MajorityIndex$Tree" "nodes" "I", Cond.fieldLink RX2 18 "MajorityIndex$Tree" "from" "[I", Cond.fieldLink RX2 22 "MajorityIndex$Tree" "to" "[I", Cond.methodLink RX2 53 yX2_layBelow, Cond.instanceMethod yX2_layBelow, Cond.selects RX2 yX2_layBelow yX2_layBelow, Cond.code yX2_layBelow cX2_layBelow 4 none, Cond.methodLink RX2 57 yX2_rightBelow, Cond.instanceMethod yX2_rightBelow, Cond.selects RX2 yX2_rightBelow yX2_rightBelow, Cond.code yX2_rightBelow cX2_rightBelow 3 (some .int), Cond.methodLink RX4 87 yX2_renew, Cond.instanceMethod yX2_renew, Cond.selects RX2 yX2_renew yX2_renew, Cond.code yX2_renew cX2_renew 5 (some .int), Cond.methodLink RX2 61 yX2_putTogether, Cond.instanceMethod yX2_putTogether, Cond.selects RX2 yX2_putTogether yX2_putTogether, Cond.code yX2_putTogether cX2_putTogether 2 none, Cond.fieldLink RX2 12 "MajorityIndex$Tree" "joined" "LMajorityIndex$Votes;", Cond.fieldLink RX2 74 "MajorityIndex$Row" "cell" "[I", Cond.fieldLink RX2 85 "MajorityIndex$Tree" "slotsHere" "I", Cond.methodLink RX2 71 yX3_clear]
def wsX4_cancelled_r3 : List Cond := [Cond.instanceMethod yX3_clear, Cond.selects RX3 yX3_clear yX3_clear, Cond.initialized RX3, Cond.code yX3_clear cX3_clear 1 none, Cond.fieldLink RX3 18 "MajorityIndex$Votes" "size" "I", Cond.fieldLink RX3 22 "MajorityIndex$Votes" "lost" "I", Cond.fieldLink RX3 25 "MajorityIndex$Votes" "lessBy" "I", Cond.methodLink RX2 77 yX3_add, Cond.instanceMethod yX3_add, Cond.selects RX3 yX3_add yX3_add, Cond.code yX3_add cX3_add 4 none, Cond.fieldLink RX3 9 "MajorityIndex$Votes" "value" "[I", Cond.fieldLink RX3 15 "MajorityIndex$Votes" "number" "[I", Cond.methodLink RX2 81 yX2_joinNode, Cond.instanceMethod yX2_joinNode, Cond.selects RX2 yX2_joinNode yX2_joinNode, Cond.code yX2_joinNode cX2_joinNode 5 none, Cond.fieldLink RX2 25 "MajorityIndex$Tree" "size" "[I", Cond.fieldLink RX2 34 "MajorityIndex$Tree" "value" "[I", Cond.fieldLink RX2 37 "MajorityIndex$Tree" "number" "[I", Cond.fieldLink RX2 91 "MajorityIndex$Votes" "lost" "I", Cond.fieldLink RX2 28 "MajorityIndex$Tree" "lossOf" "[I", Cond.methodLink RX2 88 yX3_cancel, Cond.instanceMethod yX3_cancel]
def wsX4_cancelled_r4 : List Cond := [Cond.selects RX3 yX3_cancel yX3_cancel, Cond.code yX3_cancel cX3_cancel 4 none, Cond.methodLink RX3 32 yX3_order, Cond.instanceMethod yX3_order, Cond.selects RX3 yX3_order yX3_order, Cond.code yX3_order cX3_order 3 none, Cond.methodLink RX3 35 yX3_isAhead, Cond.instanceMethod yX3_isAhead, Cond.selects RX3 yX3_isAhead yX3_isAhead, Cond.code yX3_isAhead cX3_isAhead 3 (some .boolean), Cond.methodLink RX3 39 yX3_exchange, Cond.instanceMethod yX3_exchange, Cond.selects RX3 yX3_exchange yX3_exchange, Cond.code yX3_exchange cX3_exchange 5 none, Cond.methodLink RX2 64 yX2_isJoined, Cond.instanceMethod yX2_isJoined, Cond.selects RX2 yX2_isJoined yX2_isJoined, Cond.code yX2_isJoined cX2_isJoined 4 (some .boolean), Cond.fieldLink RX2 94 "MajorityIndex$Votes" "size" "I", Cond.fieldLink RX2 96 "MajorityIndex$Votes" "value" "[I", Cond.fieldLink RX2 97 "MajorityIndex$Votes" "number" "[I", Cond.methodLink RX2 68 yX2_keepJoined, Cond.instanceMethod yX2_keepJoined, Cond.selects RX2 yX2_keepJoined yX2_keepJoined]
def wsX4_cancelled_r5 : List Cond := [Cond.code yX2_keepJoined cX2_keepJoined 4 none, Cond.methodLink RX2 98 Lib.Math.min.name, Cond.static Lib.Math.min.name, Cond.initialized "java/lang/Math", Cond.code Lib.Math.min.name Lib.Math.min.code 2 (some .int), Cond.fieldLink RX2 31 "MajorityIndex$Tree" "lessBy" "[I", Cond.fieldLink RX2 104 "MajorityIndex$Votes" "lessBy" "I", Cond.methodLink RX4 123 yX2_find, Cond.instanceMethod yX2_find, Cond.selects RX2 yX2_find yX2_find, Cond.code yX2_find cX2_find 4 (some .int)]
def wsX4_cancelled : List Cond := .code yX4_cancelled cX4_cancelled 5 (some .int) :: ((wsX4_cancelled_r1 ++ (wsX4_cancelled_r2 ++ (wsX4_cancelled_r3 ++ (wsX4_cancelled_r4 ++ wsX4_cancelled_r5)))) ++ wsX40 ++ wsX20 ++ wsX00 ++ wsX30)
def wsX4_above_r1 : List Cond := [Cond.fieldLink RX4 12 "MajorityIndex" "row" "LMajorityIndex$Row;", Cond.fieldLink RX4 151 "MajorityIndex$Tree" "from" "[I", Cond.fieldLink RX4 154 "MajorityIndex$Tree" "to" "[I", Cond.fieldLink RX4 110 "MajorityIndex$Row" "cell" "[I", Cond.methodLink RX4 64 yX0_hasPlace, Cond.instanceMethod yX0_hasPlace, Cond.selects RX0 yX0_hasPlace yX0_hasPlace, Cond.initialized RX0, Cond.code yX0_hasPlace cX0_hasPlace 2 (some .boolean), Cond.fieldLink RX0 15 "MajorityIndex$Row" "length" "I", Cond.methodLink RX4 71 yX4_laidTree, Cond.instanceMethod yX4_laidTree, Cond.selects RX4 yX4_laidTree yX4_laidTree, Cond.initialized RX4, Cond.code yX4_laidTree cX4_laidTree 1 (some (.object "MajorityIndex$Tree")), Cond.fieldLink RX4 53 "MajorityIndex" "treeIsOld" "Z", Cond.fieldLink RX4 21 "MajorityIndex" "tree" "LMajorityIndex$Tree;", Cond.fieldLink RX4 49 "MajorityIndex" "slotsNow" "I", Cond.fieldLink RX4 204 "MajorityIndex$Tree" "slotsHere" "I", Cond.fieldLink RX4 57 "MajorityIndex$Row" "length" "I", Cond.methodLink RX4 259 yX2_layRanges, Cond.instanceMethod yX2_layRanges, Cond.selects RX2 yX2_layRanges yX2_layRanges, Cond.initialized RX2]
def wsX4_above_r2 : List Cond := [Cond.code yX2_layRanges cX2_layRanges 2 none, Cond.fieldLink RX2 40 "MajorityIndex$Tree" "row" "LMajorityIndex$Row;", Cond.fieldLink RX2 44 "MajorityIndex$Row" "length" "I", Cond.fieldLink RX2 50 "MajorityIndex$Tree" "nodes" "I", Cond.fieldLink RX2 18 "MajorityIndex$Tree" "from" "[I", Cond.fieldLink RX2 22 "MajorityIndex$Tree" "to" "[I", Cond.methodLink RX2 53 yX2_layBelow, Cond.instanceMethod yX2_layBelow, Cond.selects RX2 yX2_layBelow yX2_layBelow, Cond.code yX2_layBelow cX2_layBelow 4 none, Cond.methodLink RX2 57 yX2_rightBelow, Cond.instanceMethod yX2_rightBelow, Cond.selects RX2 yX2_rightBelow yX2_rightBelow, Cond.code yX2_rightBelow cX2_rightBelow 3 (some .int), Cond.methodLink RX4 87 yX2_renew, Cond.instanceMethod yX2_renew, Cond.selects RX2 yX2_renew yX2_renew, Cond.code yX2_renew cX2_renew 5 (some .int), Cond.methodLink RX2 61 yX2_putTogether, Cond.instanceMethod yX2_putTogether, Cond.selects RX2 yX2_putTogether yX2_putTogether, Cond.code yX2_putTogether cX2_putTogether 2 none, Cond.fieldLink RX2 12 "MajorityIndex$Tree" "joined" "LMajorityIndex$Votes;", Cond.fieldLink RX2 74 "MajorityIndex$Row" "cell" "[I"]
def wsX4_above_r3 : List Cond := [Cond.fieldLink RX2 85 "MajorityIndex$Tree" "slotsHere" "I", Cond.methodLink RX2 71 yX3_clear, Cond.instanceMethod yX3_clear, Cond.selects RX3 yX3_clear yX3_clear, Cond.initialized RX3, Cond.code yX3_clear cX3_clear 1 none, Cond.fieldLink RX3 18 "MajorityIndex$Votes" "size" "I", Cond.fieldLink RX3 22 "MajorityIndex$Votes" "lost" "I", Cond.fieldLink RX3 25 "MajorityIndex$Votes" "lessBy" "I", Cond.methodLink RX2 77 yX3_add, Cond.instanceMethod yX3_add, Cond.selects RX3 yX3_add yX3_add, Cond.code yX3_add cX3_add 4 none, Cond.fieldLink RX3 9 "MajorityIndex$Votes" "value" "[I", Cond.fieldLink RX3 15 "MajorityIndex$Votes" "number" "[I", Cond.methodLink RX2 81 yX2_joinNode, Cond.instanceMethod yX2_joinNode, Cond.selects RX2 yX2_joinNode yX2_joinNode, Cond.code yX2_joinNode cX2_joinNode 5 none, Cond.fieldLink RX2 25 "MajorityIndex$Tree" "size" "[I", Cond.fieldLink RX2 34 "MajorityIndex$Tree" "value" "[I", Cond.fieldLink RX2 37 "MajorityIndex$Tree" "number" "[I", Cond.fieldLink RX2 91 "MajorityIndex$Votes" "lost" "I", Cond.fieldLink RX2 28 "MajorityIndex$Tree" "lossOf" "[I"]
def wsX4_above_r4 : List Cond := [Cond.methodLink RX2 88 yX3_cancel, Cond.instanceMethod yX3_cancel, Cond.selects RX3 yX3_cancel yX3_cancel, Cond.code yX3_cancel cX3_cancel 4 none, Cond.methodLink RX3 32 yX3_order, Cond.instanceMethod yX3_order, Cond.selects RX3 yX3_order yX3_order, Cond.code yX3_order cX3_order 3 none, Cond.methodLink RX3 35 yX3_isAhead, Cond.instanceMethod yX3_isAhead, Cond.selects RX3 yX3_isAhead yX3_isAhead, Cond.code yX3_isAhead cX3_isAhead 3 (some .boolean), Cond.methodLink RX3 39 yX3_exchange, Cond.instanceMethod yX3_exchange, Cond.selects RX3 yX3_exchange yX3_exchange, Cond.code yX3_exchange cX3_exchange 5 none, Cond.methodLink RX2 64 yX2_isJoined, Cond.instanceMethod yX2_isJoined, Cond.selects RX2 yX2_isJoined yX2_isJoined, Cond.code yX2_isJoined cX2_isJoined 4 (some .boolean), Cond.fieldLink RX2 94 "MajorityIndex$Votes" "size" "I", Cond.fieldLink RX2 96 "MajorityIndex$Votes" "value" "[I", Cond.fieldLink RX2 97 "MajorityIndex$Votes" "number" "[I", Cond.methodLink RX2 68 yX2_keepJoined]
def wsX4_above_r5 : List Cond := [Cond.instanceMethod yX2_keepJoined, Cond.selects RX2 yX2_keepJoined yX2_keepJoined, Cond.code yX2_keepJoined cX2_keepJoined 4 none, Cond.methodLink RX2 98 Lib.Math.min.name, Cond.static Lib.Math.min.name, Cond.initialized "java/lang/Math", Cond.code Lib.Math.min.name Lib.Math.min.code 2 (some .int), Cond.fieldLink RX2 31 "MajorityIndex$Tree" "lessBy" "[I", Cond.fieldLink RX2 104 "MajorityIndex$Votes" "lessBy" "I", Cond.methodLink RX4 145 yX2_depthAt, Cond.instanceMethod yX2_depthAt, Cond.selects RX2 yX2_depthAt yX2_depthAt, Cond.code yX2_depthAt cX2_depthAt 4 (some .int), Cond.methodLink RX2 110 yX2_hasPlace, Cond.instanceMethod yX2_hasPlace, Cond.selects RX2 yX2_hasPlace yX2_hasPlace, Cond.code yX2_hasPlace cX2_hasPlace 3 (some .boolean), Cond.methodLink RX4 148 yX2_onPath, Cond.instanceMethod yX2_onPath, Cond.selects RX2 yX2_onPath yX2_onPath, Cond.code yX2_onPath cX2_onPath 5 (some .int), Cond.methodLink RX4 157 yX2_numberIn, Cond.instanceMethod yX2_numberIn, Cond.selects RX2 yX2_numberIn yX2_numberIn]
def wsX4_above_r6 : List Cond := [Cond.code yX2_numberIn cX2_numberIn 5 (some .int)]
def wsX4_above : List Cond := .code yX4_above cX4_above 6 (some .int) :: ((wsX4_above_r1 ++ (wsX4_above_r2 ++ (wsX4_above_r3 ++ (wsX4_above_r4 ++ (wsX4_above_r5 ++ wsX4_above_r6))))) ++ wsX40 ++ wsX20 ++ wsX00 ++ wsX30)
def wsX4_holds_r1 : List Cond := [Cond.fieldLink RX4 12 "MajorityIndex" "row" "LMajorityIndex$Row;", Cond.methodLink RX4 64 yX0_hasPlace, Cond.instanceMethod yX0_hasPlace, Cond.selects RX0 yX0_hasPlace yX0_hasPlace, Cond.initialized RX0, Cond.code yX0_hasPlace cX0_hasPlace 2 (some .boolean), Cond.fieldLink RX0 15 "MajorityIndex$Row" "length" "I", Cond.methodLink RX4 71 yX4_laidTree, Cond.instanceMethod yX4_laidTree, Cond.selects RX4 yX4_laidTree yX4_laidTree, Cond.initialized RX4, Cond.code yX4_laidTree cX4_laidTree 1 (some (.object "MajorityIndex$Tree")), Cond.fieldLink RX4 53 "MajorityIndex" "treeIsOld" "Z", Cond.fieldLink RX4 21 "MajorityIndex" "tree" "LMajorityIndex$Tree;", Cond.fieldLink RX4 49 "MajorityIndex" "slotsNow" "I", Cond.fieldLink RX4 204 "MajorityIndex$Tree" "slotsHere" "I", Cond.fieldLink RX4 57 "MajorityIndex$Row" "length" "I", Cond.methodLink RX4 259 yX2_layRanges, Cond.instanceMethod yX2_layRanges, Cond.selects RX2 yX2_layRanges yX2_layRanges, Cond.initialized RX2, Cond.code yX2_layRanges cX2_layRanges 2 none, Cond.fieldLink RX2 40 "MajorityIndex$Tree" "row" "LMajorityIndex$Row;", Cond.fieldLink RX2 44 "MajorityIndex$Row" "length" "I"]
def wsX4_holds_r2 : List Cond := [Cond.fieldLink RX2 50 "MajorityIndex$Tree" "nodes" "I", Cond.fieldLink RX2 18 "MajorityIndex$Tree" "from" "[I", Cond.fieldLink RX2 22 "MajorityIndex$Tree" "to" "[I", Cond.methodLink RX2 53 yX2_layBelow, Cond.instanceMethod yX2_layBelow, Cond.selects RX2 yX2_layBelow yX2_layBelow, Cond.code yX2_layBelow cX2_layBelow 4 none, Cond.methodLink RX2 57 yX2_rightBelow, Cond.instanceMethod yX2_rightBelow, Cond.selects RX2 yX2_rightBelow yX2_rightBelow, Cond.code yX2_rightBelow cX2_rightBelow 3 (some .int), Cond.methodLink RX4 87 yX2_renew, Cond.instanceMethod yX2_renew, Cond.selects RX2 yX2_renew yX2_renew, Cond.code yX2_renew cX2_renew 5 (some .int), Cond.methodLink RX2 61 yX2_putTogether, Cond.instanceMethod yX2_putTogether, Cond.selects RX2 yX2_putTogether yX2_putTogether, Cond.code yX2_putTogether cX2_putTogether 2 none, Cond.fieldLink RX2 12 "MajorityIndex$Tree" "joined" "LMajorityIndex$Votes;", Cond.fieldLink RX2 74 "MajorityIndex$Row" "cell" "[I", Cond.fieldLink RX2 85 "MajorityIndex$Tree" "slotsHere" "I", Cond.methodLink RX2 71 yX3_clear, Cond.instanceMethod yX3_clear]
def wsX4_holds_r3 : List Cond := [Cond.selects RX3 yX3_clear yX3_clear, Cond.initialized RX3, Cond.code yX3_clear cX3_clear 1 none, Cond.fieldLink RX3 18 "MajorityIndex$Votes" "size" "I", Cond.fieldLink RX3 22 "MajorityIndex$Votes" "lost" "I", Cond.fieldLink RX3 25 "MajorityIndex$Votes" "lessBy" "I", Cond.methodLink RX2 77 yX3_add, Cond.instanceMethod yX3_add, Cond.selects RX3 yX3_add yX3_add, Cond.code yX3_add cX3_add 4 none, Cond.fieldLink RX3 9 "MajorityIndex$Votes" "value" "[I", Cond.fieldLink RX3 15 "MajorityIndex$Votes" "number" "[I", Cond.methodLink RX2 81 yX2_joinNode, Cond.instanceMethod yX2_joinNode, Cond.selects RX2 yX2_joinNode yX2_joinNode, Cond.code yX2_joinNode cX2_joinNode 5 none, Cond.fieldLink RX2 25 "MajorityIndex$Tree" "size" "[I", Cond.fieldLink RX2 34 "MajorityIndex$Tree" "value" "[I", Cond.fieldLink RX2 37 "MajorityIndex$Tree" "number" "[I", Cond.fieldLink RX2 91 "MajorityIndex$Votes" "lost" "I", Cond.fieldLink RX2 28 "MajorityIndex$Tree" "lossOf" "[I", Cond.methodLink RX2 88 yX3_cancel, Cond.instanceMethod yX3_cancel, Cond.selects RX3 yX3_cancel yX3_cancel]
def wsX4_holds_r4 : List Cond := [Cond.code yX3_cancel cX3_cancel 4 none, Cond.methodLink RX3 32 yX3_order, Cond.instanceMethod yX3_order, Cond.selects RX3 yX3_order yX3_order, Cond.code yX3_order cX3_order 3 none, Cond.methodLink RX3 35 yX3_isAhead, Cond.instanceMethod yX3_isAhead, Cond.selects RX3 yX3_isAhead yX3_isAhead, Cond.code yX3_isAhead cX3_isAhead 3 (some .boolean), Cond.methodLink RX3 39 yX3_exchange, Cond.instanceMethod yX3_exchange, Cond.selects RX3 yX3_exchange yX3_exchange, Cond.code yX3_exchange cX3_exchange 5 none, Cond.methodLink RX2 64 yX2_isJoined, Cond.instanceMethod yX2_isJoined, Cond.selects RX2 yX2_isJoined yX2_isJoined, Cond.code yX2_isJoined cX2_isJoined 4 (some .boolean), Cond.fieldLink RX2 94 "MajorityIndex$Votes" "size" "I", Cond.fieldLink RX2 96 "MajorityIndex$Votes" "value" "[I", Cond.fieldLink RX2 97 "MajorityIndex$Votes" "number" "[I", Cond.methodLink RX2 68 yX2_keepJoined, Cond.instanceMethod yX2_keepJoined, Cond.selects RX2 yX2_keepJoined yX2_keepJoined, Cond.code yX2_keepJoined cX2_keepJoined 4 none]
def wsX4_holds_r5 : List Cond := [Cond.methodLink RX2 98 Lib.Math.min.name, Cond.static Lib.Math.min.name, Cond.initialized "java/lang/Math", Cond.code Lib.Math.min.name Lib.Math.min.code 2 (some .int), Cond.fieldLink RX2 31 "MajorityIndex$Tree" "lessBy" "[I", Cond.fieldLink RX2 104 "MajorityIndex$Votes" "lessBy" "I", Cond.methodLink RX4 160 yX2_holding, Cond.instanceMethod yX2_holding, Cond.selects RX2 yX2_holding yX2_holding, Cond.code yX2_holding cX2_holding 4 (some .int), Cond.methodLink RX2 110 yX2_hasPlace, Cond.instanceMethod yX2_hasPlace, Cond.selects RX2 yX2_hasPlace yX2_hasPlace, Cond.code yX2_hasPlace cX2_hasPlace 3 (some .boolean), Cond.methodLink RX2 114 yX2_numberIn, Cond.instanceMethod yX2_numberIn, Cond.selects RX2 yX2_numberIn yX2_numberIn, Cond.code yX2_numberIn cX2_numberIn 5 (some .int)]
def wsX4_holds : List Cond := .code yX4_holds cX4_holds 2 (some .int) :: ((wsX4_holds_r1 ++ (wsX4_holds_r2 ++ (wsX4_holds_r3 ++ (wsX4_holds_r4 ++ wsX4_holds_r5)))) ++ wsX40 ++ wsX00 ++ wsX20 ++ wsX30)
def wsX4_parts_r1 : List Cond := [Cond.fieldLink RX4 12 "MajorityIndex" "row" "LMajorityIndex$Row;", Cond.fieldLink RX4 163 "MajorityIndex$Tree" "nodes" "I", Cond.fieldLink RX4 154 "MajorityIndex$Tree" "to" "[I", Cond.methodLink RX4 79 yX0_hasRange, Cond.instanceMethod yX0_hasRange, Cond.selects RX0 yX0_hasRange yX0_hasRange, Cond.initialized RX0, Cond.code yX0_hasRange cX0_hasRange 3 (some .boolean), Cond.fieldLink RX0 15 "MajorityIndex$Row" "length" "I", Cond.methodLink RX4 71 yX4_laidTree, Cond.instanceMethod yX4_laidTree, Cond.selects RX4 yX4_laidTree yX4_laidTree, Cond.initialized RX4, Cond.code yX4_laidTree cX4_laidTree 1 (some (.object "MajorityIndex$Tree")), Cond.fieldLink RX4 53 "MajorityIndex" "treeIsOld" "Z", Cond.fieldLink RX4 21 "MajorityIndex" "tree" "LMajorityIndex$Tree;", Cond.fieldLink RX4 49 "MajorityIndex" "slotsNow" "I", Cond.fieldLink RX4 204 "MajorityIndex$Tree" "slotsHere" "I", Cond.fieldLink RX4 57 "MajorityIndex$Row" "length" "I", Cond.methodLink RX4 259 yX2_layRanges, Cond.instanceMethod yX2_layRanges, Cond.selects RX2 yX2_layRanges yX2_layRanges, Cond.initialized RX2, Cond.code yX2_layRanges cX2_layRanges 2 none]
def wsX4_parts_r2 : List Cond := [Cond.fieldLink RX2 40 "MajorityIndex$Tree" "row" "LMajorityIndex$Row;", Cond.fieldLink RX2 44 "MajorityIndex$Row" "length" "I", Cond.fieldLink RX2 50 "MajorityIndex$Tree" "nodes" "I", Cond.fieldLink RX2 18 "MajorityIndex$Tree" "from" "[I", Cond.fieldLink RX2 22 "MajorityIndex$Tree" "to" "[I", Cond.methodLink RX2 53 yX2_layBelow, Cond.instanceMethod yX2_layBelow, Cond.selects RX2 yX2_layBelow yX2_layBelow, Cond.code yX2_layBelow cX2_layBelow 4 none, Cond.methodLink RX2 57 yX2_rightBelow, Cond.instanceMethod yX2_rightBelow, Cond.selects RX2 yX2_rightBelow yX2_rightBelow, Cond.code yX2_rightBelow cX2_rightBelow 3 (some .int), Cond.methodLink RX4 87 yX2_renew, Cond.instanceMethod yX2_renew, Cond.selects RX2 yX2_renew yX2_renew, Cond.code yX2_renew cX2_renew 5 (some .int), Cond.methodLink RX2 61 yX2_putTogether, Cond.instanceMethod yX2_putTogether, Cond.selects RX2 yX2_putTogether yX2_putTogether, Cond.code yX2_putTogether cX2_putTogether 2 none, Cond.fieldLink RX2 12 "MajorityIndex$Tree" "joined" "LMajorityIndex$Votes;", Cond.fieldLink RX2 74 "MajorityIndex$Row" "cell" "[I", Cond.fieldLink RX2 85 "MajorityIndex$Tree" "slotsHere" "I"]
def wsX4_parts_r3 : List Cond := [Cond.methodLink RX2 71 yX3_clear, Cond.instanceMethod yX3_clear, Cond.selects RX3 yX3_clear yX3_clear, Cond.initialized RX3, Cond.code yX3_clear cX3_clear 1 none, Cond.fieldLink RX3 18 "MajorityIndex$Votes" "size" "I", Cond.fieldLink RX3 22 "MajorityIndex$Votes" "lost" "I", Cond.fieldLink RX3 25 "MajorityIndex$Votes" "lessBy" "I", Cond.methodLink RX2 77 yX3_add, Cond.instanceMethod yX3_add, Cond.selects RX3 yX3_add yX3_add, Cond.code yX3_add cX3_add 4 none, Cond.fieldLink RX3 9 "MajorityIndex$Votes" "value" "[I", Cond.fieldLink RX3 15 "MajorityIndex$Votes" "number" "[I", Cond.methodLink RX2 81 yX2_joinNode, Cond.instanceMethod yX2_joinNode, Cond.selects RX2 yX2_joinNode yX2_joinNode, Cond.code yX2_joinNode cX2_joinNode 5 none, Cond.fieldLink RX2 25 "MajorityIndex$Tree" "size" "[I", Cond.fieldLink RX2 34 "MajorityIndex$Tree" "value" "[I", Cond.fieldLink RX2 37 "MajorityIndex$Tree" "number" "[I", Cond.fieldLink RX2 91 "MajorityIndex$Votes" "lost" "I", Cond.fieldLink RX2 28 "MajorityIndex$Tree" "lossOf" "[I", Cond.methodLink RX2 88 yX3_cancel]
def wsX4_parts_r4 : List Cond := [Cond.instanceMethod yX3_cancel, Cond.selects RX3 yX3_cancel yX3_cancel, Cond.code yX3_cancel cX3_cancel 4 none, Cond.methodLink RX3 32 yX3_order, Cond.instanceMethod yX3_order, Cond.selects RX3 yX3_order yX3_order, Cond.code yX3_order cX3_order 3 none, Cond.methodLink RX3 35 yX3_isAhead, Cond.instanceMethod yX3_isAhead, Cond.selects RX3 yX3_isAhead yX3_isAhead, Cond.code yX3_isAhead cX3_isAhead 3 (some .boolean), Cond.methodLink RX3 39 yX3_exchange, Cond.instanceMethod yX3_exchange, Cond.selects RX3 yX3_exchange yX3_exchange, Cond.code yX3_exchange cX3_exchange 5 none, Cond.methodLink RX2 64 yX2_isJoined, Cond.instanceMethod yX2_isJoined, Cond.selects RX2 yX2_isJoined yX2_isJoined, Cond.code yX2_isJoined cX2_isJoined 4 (some .boolean), Cond.fieldLink RX2 94 "MajorityIndex$Votes" "size" "I", Cond.fieldLink RX2 96 "MajorityIndex$Votes" "value" "[I", Cond.fieldLink RX2 97 "MajorityIndex$Votes" "number" "[I", Cond.methodLink RX2 68 yX2_keepJoined, Cond.instanceMethod yX2_keepJoined]
def wsX4_parts_r5 : List Cond := [Cond.selects RX2 yX2_keepJoined yX2_keepJoined, Cond.code yX2_keepJoined cX2_keepJoined 4 none, Cond.methodLink RX2 98 Lib.Math.min.name, Cond.static Lib.Math.min.name, Cond.initialized "java/lang/Math", Cond.code Lib.Math.min.name Lib.Math.min.code 2 (some .int), Cond.fieldLink RX2 31 "MajorityIndex$Tree" "lessBy" "[I", Cond.fieldLink RX2 104 "MajorityIndex$Votes" "lessBy" "I", Cond.methodLink RX4 166 yX2_isPart, Cond.instanceMethod yX2_isPart, Cond.selects RX2 yX2_isPart yX2_isPart, Cond.code yX2_isPart cX2_isPart 4 (some .boolean)]
def wsX4_parts : List Cond := .code yX4_parts cX4_parts 7 (some .int) :: ((wsX4_parts_r1 ++ (wsX4_parts_r2 ++ (wsX4_parts_r3 ++ (wsX4_parts_r4 ++ wsX4_parts_r5)))) ++ wsX40 ++ wsX20 ++ wsX00 ++ wsX30)
def wsX4_part_r1 : List Cond := [Cond.fieldLink RX4 12 "MajorityIndex" "row" "LMajorityIndex$Row;", Cond.fieldLink RX4 163 "MajorityIndex$Tree" "nodes" "I", Cond.fieldLink RX4 151 "MajorityIndex$Tree" "from" "[I", Cond.fieldLink RX4 154 "MajorityIndex$Tree" "to" "[I", Cond.methodLink RX4 79 yX0_hasRange, Cond.instanceMethod yX0_hasRange, Cond.selects RX0 yX0_hasRange yX0_hasRange, Cond.initialized RX0, Cond.code yX0_hasRange cX0_hasRange 3 (some .boolean), Cond.fieldLink RX0 15 "MajorityIndex$Row" "length" "I", Cond.methodLink RX4 71 yX4_laidTree, Cond.instanceMethod yX4_laidTree, Cond.selects RX4 yX4_laidTree yX4_laidTree, Cond.initialized RX4, Cond.code yX4_laidTree cX4_laidTree 1 (some (.object "MajorityIndex$Tree")), Cond.fieldLink RX4 53 "MajorityIndex" "treeIsOld" "Z", Cond.fieldLink RX4 21 "MajorityIndex" "tree" "LMajorityIndex$Tree;", Cond.fieldLink RX4 49 "MajorityIndex" "slotsNow" "I", Cond.fieldLink RX4 204 "MajorityIndex$Tree" "slotsHere" "I", Cond.fieldLink RX4 57 "MajorityIndex$Row" "length" "I", Cond.methodLink RX4 259 yX2_layRanges, Cond.instanceMethod yX2_layRanges, Cond.selects RX2 yX2_layRanges yX2_layRanges, Cond.initialized RX2]
def wsX4_part_r2 : List Cond := [Cond.code yX2_layRanges cX2_layRanges 2 none, Cond.fieldLink RX2 40 "MajorityIndex$Tree" "row" "LMajorityIndex$Row;", Cond.fieldLink RX2 44 "MajorityIndex$Row" "length" "I", Cond.fieldLink RX2 50 "MajorityIndex$Tree" "nodes" "I", Cond.fieldLink RX2 18 "MajorityIndex$Tree" "from" "[I", Cond.fieldLink RX2 22 "MajorityIndex$Tree" "to" "[I", Cond.methodLink RX2 53 yX2_layBelow, Cond.instanceMethod yX2_layBelow, Cond.selects RX2 yX2_layBelow yX2_layBelow, Cond.code yX2_layBelow cX2_layBelow 4 none, Cond.methodLink RX2 57 yX2_rightBelow, Cond.instanceMethod yX2_rightBelow, Cond.selects RX2 yX2_rightBelow yX2_rightBelow, Cond.code yX2_rightBelow cX2_rightBelow 3 (some .int), Cond.methodLink RX4 87 yX2_renew, Cond.instanceMethod yX2_renew, Cond.selects RX2 yX2_renew yX2_renew, Cond.code yX2_renew cX2_renew 5 (some .int), Cond.methodLink RX2 61 yX2_putTogether, Cond.instanceMethod yX2_putTogether, Cond.selects RX2 yX2_putTogether yX2_putTogether, Cond.code yX2_putTogether cX2_putTogether 2 none, Cond.fieldLink RX2 12 "MajorityIndex$Tree" "joined" "LMajorityIndex$Votes;", Cond.fieldLink RX2 74 "MajorityIndex$Row" "cell" "[I"]
def wsX4_part_r3 : List Cond := [Cond.fieldLink RX2 85 "MajorityIndex$Tree" "slotsHere" "I", Cond.methodLink RX2 71 yX3_clear, Cond.instanceMethod yX3_clear, Cond.selects RX3 yX3_clear yX3_clear, Cond.initialized RX3, Cond.code yX3_clear cX3_clear 1 none, Cond.fieldLink RX3 18 "MajorityIndex$Votes" "size" "I", Cond.fieldLink RX3 22 "MajorityIndex$Votes" "lost" "I", Cond.fieldLink RX3 25 "MajorityIndex$Votes" "lessBy" "I", Cond.methodLink RX2 77 yX3_add, Cond.instanceMethod yX3_add, Cond.selects RX3 yX3_add yX3_add, Cond.code yX3_add cX3_add 4 none, Cond.fieldLink RX3 9 "MajorityIndex$Votes" "value" "[I", Cond.fieldLink RX3 15 "MajorityIndex$Votes" "number" "[I", Cond.methodLink RX2 81 yX2_joinNode, Cond.instanceMethod yX2_joinNode, Cond.selects RX2 yX2_joinNode yX2_joinNode, Cond.code yX2_joinNode cX2_joinNode 5 none, Cond.fieldLink RX2 25 "MajorityIndex$Tree" "size" "[I", Cond.fieldLink RX2 34 "MajorityIndex$Tree" "value" "[I", Cond.fieldLink RX2 37 "MajorityIndex$Tree" "number" "[I", Cond.fieldLink RX2 91 "MajorityIndex$Votes" "lost" "I", Cond.fieldLink RX2 28 "MajorityIndex$Tree" "lossOf" "[I"]
def wsX4_part_r4 : List Cond := [Cond.methodLink RX2 88 yX3_cancel, Cond.instanceMethod yX3_cancel, Cond.selects RX3 yX3_cancel yX3_cancel, Cond.code yX3_cancel cX3_cancel 4 none, Cond.methodLink RX3 32 yX3_order, Cond.instanceMethod yX3_order, Cond.selects RX3 yX3_order yX3_order, Cond.code yX3_order cX3_order 3 none, Cond.methodLink RX3 35 yX3_isAhead, Cond.instanceMethod yX3_isAhead, Cond.selects RX3 yX3_isAhead yX3_isAhead, Cond.code yX3_isAhead cX3_isAhead 3 (some .boolean), Cond.methodLink RX3 39 yX3_exchange, Cond.instanceMethod yX3_exchange, Cond.selects RX3 yX3_exchange yX3_exchange, Cond.code yX3_exchange cX3_exchange 5 none, Cond.methodLink RX2 64 yX2_isJoined, Cond.instanceMethod yX2_isJoined, Cond.selects RX2 yX2_isJoined yX2_isJoined, Cond.code yX2_isJoined cX2_isJoined 4 (some .boolean), Cond.fieldLink RX2 94 "MajorityIndex$Votes" "size" "I", Cond.fieldLink RX2 96 "MajorityIndex$Votes" "value" "[I", Cond.fieldLink RX2 97 "MajorityIndex$Votes" "number" "[I", Cond.methodLink RX2 68 yX2_keepJoined]
def wsX4_part_r5 : List Cond := [Cond.instanceMethod yX2_keepJoined, Cond.selects RX2 yX2_keepJoined yX2_keepJoined, Cond.code yX2_keepJoined cX2_keepJoined 4 none, Cond.methodLink RX2 98 Lib.Math.min.name, Cond.static Lib.Math.min.name, Cond.initialized "java/lang/Math", Cond.code Lib.Math.min.name Lib.Math.min.code 2 (some .int), Cond.fieldLink RX2 31 "MajorityIndex$Tree" "lessBy" "[I", Cond.fieldLink RX2 104 "MajorityIndex$Votes" "lessBy" "I", Cond.methodLink RX4 166 yX2_isPart, Cond.instanceMethod yX2_isPart, Cond.selects RX2 yX2_isPart yX2_isPart, Cond.code yX2_isPart cX2_isPart 4 (some .boolean)]
def wsX4_part : List Cond := .code yX4_part cX4_part 9 (some .int) :: ((wsX4_part_r1 ++ (wsX4_part_r2 ++ (wsX4_part_r3 ++ (wsX4_part_r4 ++ wsX4_part_r5)))) ++ wsX40 ++ wsX20 ++ wsX00 ++ wsX30)
def wsX4_summary_r1 : List Cond := [Cond.fieldLink RX4 12 "MajorityIndex" "row" "LMajorityIndex$Row;", Cond.fieldLink RX4 35 "MajorityIndex" "votes" "LMajorityIndex$Votes;", Cond.fieldLink RX4 174 "MajorityIndex$Votes" "size" "I", Cond.fieldLink RX4 180 "MajorityIndex$Votes" "lost" "I", Cond.methodLink RX4 79 yX0_hasRange, Cond.instanceMethod yX0_hasRange, Cond.selects RX0 yX0_hasRange yX0_hasRange, Cond.initialized RX0, Cond.code yX0_hasRange cX0_hasRange 3 (some .boolean), Cond.fieldLink RX0 15 "MajorityIndex$Row" "length" "I", Cond.methodLink RX4 71 yX4_laidTree, Cond.instanceMethod yX4_laidTree, Cond.selects RX4 yX4_laidTree yX4_laidTree, Cond.initialized RX4, Cond.code yX4_laidTree cX4_laidTree 1 (some (.object "MajorityIndex$Tree")), Cond.fieldLink RX4 53 "MajorityIndex" "treeIsOld" "Z", Cond.fieldLink RX4 21 "MajorityIndex" "tree" "LMajorityIndex$Tree;", Cond.fieldLink RX4 49 "MajorityIndex" "slotsNow" "I", Cond.fieldLink RX4 204 "MajorityIndex$Tree" "slotsHere" "I", Cond.fieldLink RX4 57 "MajorityIndex$Row" "length" "I", Cond.methodLink RX4 259 yX2_layRanges, Cond.instanceMethod yX2_layRanges, Cond.selects RX2 yX2_layRanges yX2_layRanges, Cond.initialized RX2]
def wsX4_summary_r2 : List Cond := [Cond.code yX2_layRanges cX2_layRanges 2 none, Cond.fieldLink RX2 40 "MajorityIndex$Tree" "row" "LMajorityIndex$Row;", Cond.fieldLink RX2 44 "MajorityIndex$Row" "length" "I", Cond.fieldLink RX2 50 "MajorityIndex$Tree" "nodes" "I", Cond.fieldLink RX2 18 "MajorityIndex$Tree" "from" "[I", Cond.fieldLink RX2 22 "MajorityIndex$Tree" "to" "[I", Cond.methodLink RX2 53 yX2_layBelow, Cond.instanceMethod yX2_layBelow, Cond.selects RX2 yX2_layBelow yX2_layBelow, Cond.code yX2_layBelow cX2_layBelow 4 none, Cond.methodLink RX2 57 yX2_rightBelow, Cond.instanceMethod yX2_rightBelow, Cond.selects RX2 yX2_rightBelow yX2_rightBelow, Cond.code yX2_rightBelow cX2_rightBelow 3 (some .int), Cond.methodLink RX4 87 yX2_renew, Cond.instanceMethod yX2_renew, Cond.selects RX2 yX2_renew yX2_renew, Cond.code yX2_renew cX2_renew 5 (some .int), Cond.methodLink RX2 61 yX2_putTogether, Cond.instanceMethod yX2_putTogether, Cond.selects RX2 yX2_putTogether yX2_putTogether, Cond.code yX2_putTogether cX2_putTogether 2 none, Cond.fieldLink RX2 12 "MajorityIndex$Tree" "joined" "LMajorityIndex$Votes;", Cond.fieldLink RX2 74 "MajorityIndex$Row" "cell" "[I"]
def wsX4_summary_r3 : List Cond := [Cond.fieldLink RX2 85 "MajorityIndex$Tree" "slotsHere" "I", Cond.methodLink RX2 71 yX3_clear, Cond.instanceMethod yX3_clear, Cond.selects RX3 yX3_clear yX3_clear, Cond.initialized RX3, Cond.code yX3_clear cX3_clear 1 none, Cond.fieldLink RX3 18 "MajorityIndex$Votes" "size" "I", Cond.fieldLink RX3 22 "MajorityIndex$Votes" "lost" "I", Cond.fieldLink RX3 25 "MajorityIndex$Votes" "lessBy" "I", Cond.methodLink RX2 77 yX3_add, Cond.instanceMethod yX3_add, Cond.selects RX3 yX3_add yX3_add, Cond.code yX3_add cX3_add 4 none, Cond.fieldLink RX3 9 "MajorityIndex$Votes" "value" "[I", Cond.fieldLink RX3 15 "MajorityIndex$Votes" "number" "[I", Cond.methodLink RX2 81 yX2_joinNode, Cond.instanceMethod yX2_joinNode, Cond.selects RX2 yX2_joinNode yX2_joinNode, Cond.code yX2_joinNode cX2_joinNode 5 none, Cond.fieldLink RX2 25 "MajorityIndex$Tree" "size" "[I", Cond.fieldLink RX2 34 "MajorityIndex$Tree" "value" "[I", Cond.fieldLink RX2 37 "MajorityIndex$Tree" "number" "[I", Cond.fieldLink RX2 91 "MajorityIndex$Votes" "lost" "I", Cond.fieldLink RX2 28 "MajorityIndex$Tree" "lossOf" "[I"]
def wsX4_summary_r4 : List Cond := [Cond.methodLink RX2 88 yX3_cancel, Cond.instanceMethod yX3_cancel, Cond.selects RX3 yX3_cancel yX3_cancel, Cond.code yX3_cancel cX3_cancel 4 none, Cond.methodLink RX3 32 yX3_order, Cond.instanceMethod yX3_order, Cond.selects RX3 yX3_order yX3_order, Cond.code yX3_order cX3_order 3 none, Cond.methodLink RX3 35 yX3_isAhead, Cond.instanceMethod yX3_isAhead, Cond.selects RX3 yX3_isAhead yX3_isAhead, Cond.code yX3_isAhead cX3_isAhead 3 (some .boolean), Cond.methodLink RX3 39 yX3_exchange, Cond.instanceMethod yX3_exchange, Cond.selects RX3 yX3_exchange yX3_exchange, Cond.code yX3_exchange cX3_exchange 5 none, Cond.methodLink RX2 64 yX2_isJoined, Cond.instanceMethod yX2_isJoined, Cond.selects RX2 yX2_isJoined yX2_isJoined, Cond.code yX2_isJoined cX2_isJoined 4 (some .boolean), Cond.fieldLink RX2 94 "MajorityIndex$Votes" "size" "I", Cond.fieldLink RX2 96 "MajorityIndex$Votes" "value" "[I", Cond.fieldLink RX2 97 "MajorityIndex$Votes" "number" "[I", Cond.methodLink RX2 68 yX2_keepJoined]
def wsX4_summary_r5 : List Cond := [Cond.instanceMethod yX2_keepJoined, Cond.selects RX2 yX2_keepJoined yX2_keepJoined, Cond.code yX2_keepJoined cX2_keepJoined 4 none, Cond.methodLink RX2 98 Lib.Math.min.name, Cond.static Lib.Math.min.name, Cond.initialized "java/lang/Math", Cond.code Lib.Math.min.name Lib.Math.min.code 2 (some .int), Cond.fieldLink RX2 31 "MajorityIndex$Tree" "lessBy" "[I", Cond.fieldLink RX2 104 "MajorityIndex$Votes" "lessBy" "I", Cond.methodLink RX4 170 yX2_gather, Cond.instanceMethod yX2_gather, Cond.selects RX2 yX2_gather yX2_gather, Cond.code yX2_gather cX2_gather 6 none, Cond.methodLink RX2 106 yX2_isPart, Cond.instanceMethod yX2_isPart, Cond.selects RX2 yX2_isPart yX2_isPart, Cond.code yX2_isPart cX2_isPart 4 (some .boolean), Cond.methodLink RX4 176 yX3_total, Cond.instanceMethod yX3_total, Cond.selects RX3 yX3_total yX3_total, Cond.code yX3_total cX3_total 3 (some .int)]
def wsX4_summary : List Cond := .code yX4_summary cX4_summary 4 (some .int) :: ((wsX4_summary_r1 ++ (wsX4_summary_r2 ++ (wsX4_summary_r3 ++ (wsX4_summary_r4 ++ wsX4_summary_r5)))) ++ wsX40 ++ wsX30 ++ wsX00 ++ wsX20)
def wsX4_lost_r1 : List Cond := [Cond.fieldLink RX4 12 "MajorityIndex" "row" "LMajorityIndex$Row;", Cond.fieldLink RX4 35 "MajorityIndex" "votes" "LMajorityIndex$Votes;", Cond.methodLink RX4 68 yX4_isValue, Cond.static yX4_isValue, Cond.initialized RX4, Cond.code yX4_isValue cX4_isValue 1 (some .boolean), Cond.methodLink RX4 79 yX0_hasRange, Cond.instanceMethod yX0_hasRange, Cond.selects RX0 yX0_hasRange yX0_hasRange, Cond.initialized RX0, Cond.code yX0_hasRange cX0_hasRange 3 (some .boolean), Cond.fieldLink RX0 15 "MajorityIndex$Row" "length" "I", Cond.methodLink RX4 71 yX4_laidTree, Cond.instanceMethod yX4_laidTree, Cond.selects RX4 yX4_laidTree yX4_laidTree, Cond.code yX4_laidTree cX4_laidTree 1 (some (.object "MajorityIndex$Tree")), Cond.fieldLink RX4 53 "MajorityIndex" "treeIsOld" "Z", Cond.fieldLink RX4 21 "MajorityIndex" "tree" "LMajorityIndex$Tree;", Cond.fieldLink RX4 49 "MajorityIndex" "slotsNow" "I", Cond.fieldLink RX4 204 "MajorityIndex$Tree" "slotsHere" "I", Cond.fieldLink RX4 57 "MajorityIndex$Row" "length" "I", Cond.methodLink RX4 259 yX2_layRanges, Cond.instanceMethod yX2_layRanges, Cond.selects RX2 yX2_layRanges yX2_layRanges]
def wsX4_lost_r2 : List Cond := [Cond.initialized RX2, Cond.code yX2_layRanges cX2_layRanges 2 none, Cond.fieldLink RX2 40 "MajorityIndex$Tree" "row" "LMajorityIndex$Row;", Cond.fieldLink RX2 44 "MajorityIndex$Row" "length" "I", Cond.fieldLink RX2 50 "MajorityIndex$Tree" "nodes" "I", Cond.fieldLink RX2 18 "MajorityIndex$Tree" "from" "[I", Cond.fieldLink RX2 22 "MajorityIndex$Tree" "to" "[I", Cond.methodLink RX2 53 yX2_layBelow, Cond.instanceMethod yX2_layBelow, Cond.selects RX2 yX2_layBelow yX2_layBelow, Cond.code yX2_layBelow cX2_layBelow 4 none, Cond.methodLink RX2 57 yX2_rightBelow, Cond.instanceMethod yX2_rightBelow, Cond.selects RX2 yX2_rightBelow yX2_rightBelow, Cond.code yX2_rightBelow cX2_rightBelow 3 (some .int), Cond.methodLink RX4 87 yX2_renew, Cond.instanceMethod yX2_renew, Cond.selects RX2 yX2_renew yX2_renew, Cond.code yX2_renew cX2_renew 5 (some .int), Cond.methodLink RX2 61 yX2_putTogether, Cond.instanceMethod yX2_putTogether, Cond.selects RX2 yX2_putTogether yX2_putTogether, Cond.code yX2_putTogether cX2_putTogether 2 none, Cond.fieldLink RX2 12 "MajorityIndex$Tree" "joined" "LMajorityIndex$Votes;"]
def wsX4_lost_r3 : List Cond := [Cond.fieldLink RX2 74 "MajorityIndex$Row" "cell" "[I", Cond.fieldLink RX2 85 "MajorityIndex$Tree" "slotsHere" "I", Cond.methodLink RX2 71 yX3_clear, Cond.instanceMethod yX3_clear, Cond.selects RX3 yX3_clear yX3_clear, Cond.initialized RX3, Cond.code yX3_clear cX3_clear 1 none, Cond.fieldLink RX3 18 "MajorityIndex$Votes" "size" "I", Cond.fieldLink RX3 22 "MajorityIndex$Votes" "lost" "I", Cond.fieldLink RX3 25 "MajorityIndex$Votes" "lessBy" "I", Cond.methodLink RX2 77 yX3_add, Cond.instanceMethod yX3_add, Cond.selects RX3 yX3_add yX3_add, Cond.code yX3_add cX3_add 4 none, Cond.fieldLink RX3 9 "MajorityIndex$Votes" "value" "[I", Cond.fieldLink RX3 15 "MajorityIndex$Votes" "number" "[I", Cond.methodLink RX2 81 yX2_joinNode, Cond.instanceMethod yX2_joinNode, Cond.selects RX2 yX2_joinNode yX2_joinNode, Cond.code yX2_joinNode cX2_joinNode 5 none, Cond.fieldLink RX2 25 "MajorityIndex$Tree" "size" "[I", Cond.fieldLink RX2 34 "MajorityIndex$Tree" "value" "[I", Cond.fieldLink RX2 37 "MajorityIndex$Tree" "number" "[I", Cond.fieldLink RX2 91 "MajorityIndex$Votes" "lost" "I"]
def wsX4_lost_r4 : List Cond := [Cond.fieldLink RX2 28 "MajorityIndex$Tree" "lossOf" "[I", Cond.methodLink RX2 88 yX3_cancel, Cond.instanceMethod yX3_cancel, Cond.selects RX3 yX3_cancel yX3_cancel, Cond.code yX3_cancel cX3_cancel 4 none, Cond.methodLink RX3 32 yX3_order, Cond.instanceMethod yX3_order, Cond.selects RX3 yX3_order yX3_order, Cond.code yX3_order cX3_order 3 none, Cond.methodLink RX3 35 yX3_isAhead, Cond.instanceMethod yX3_isAhead, Cond.selects RX3 yX3_isAhead yX3_isAhead, Cond.code yX3_isAhead cX3_isAhead 3 (some .boolean), Cond.methodLink RX3 39 yX3_exchange, Cond.instanceMethod yX3_exchange, Cond.selects RX3 yX3_exchange yX3_exchange, Cond.code yX3_exchange cX3_exchange 5 none, Cond.methodLink RX2 64 yX2_isJoined, Cond.instanceMethod yX2_isJoined, Cond.selects RX2 yX2_isJoined yX2_isJoined, Cond.code yX2_isJoined cX2_isJoined 4 (some .boolean), Cond.fieldLink RX2 94 "MajorityIndex$Votes" "size" "I", Cond.fieldLink RX2 96 "MajorityIndex$Votes" "value" "[I", Cond.fieldLink RX2 97 "MajorityIndex$Votes" "number" "[I"]
def wsX4_lost_r5 : List Cond := [Cond.methodLink RX2 68 yX2_keepJoined, Cond.instanceMethod yX2_keepJoined, Cond.selects RX2 yX2_keepJoined yX2_keepJoined, Cond.code yX2_keepJoined cX2_keepJoined 4 none, Cond.methodLink RX2 98 Lib.Math.min.name, Cond.static Lib.Math.min.name, Cond.initialized "java/lang/Math", Cond.code Lib.Math.min.name Lib.Math.min.code 2 (some .int), Cond.fieldLink RX2 31 "MajorityIndex$Tree" "lessBy" "[I", Cond.fieldLink RX2 104 "MajorityIndex$Votes" "lessBy" "I", Cond.methodLink RX4 170 yX2_gather, Cond.instanceMethod yX2_gather, Cond.selects RX2 yX2_gather yX2_gather, Cond.code yX2_gather cX2_gather 6 none, Cond.methodLink RX2 106 yX2_isPart, Cond.instanceMethod yX2_isPart, Cond.selects RX2 yX2_isPart yX2_isPart, Cond.code yX2_isPart cX2_isPart 4 (some .boolean), Cond.methodLink RX4 113 yX0_oftenIn, Cond.instanceMethod yX0_oftenIn, Cond.selects RX0 yX0_oftenIn yX0_oftenIn, Cond.code yX0_oftenIn cX0_oftenIn 6 (some .int), Cond.fieldLink RX0 9 "MajorityIndex$Row" "cell" "[I", Cond.methodLink RX4 183 yX3_numberOf]
def wsX4_lost_r6 : List Cond := [Cond.instanceMethod yX3_numberOf, Cond.selects RX3 yX3_numberOf yX3_numberOf, Cond.code yX3_numberOf cX3_numberOf 3 (some .int)]
def wsX4_lost : List Cond := .code yX4_lost cX4_lost 4 (some .int) :: ((wsX4_lost_r1 ++ (wsX4_lost_r2 ++ (wsX4_lost_r3 ++ (wsX4_lost_r4 ++ (wsX4_lost_r5 ++ wsX4_lost_r6))))) ++ wsX40 ++ wsX00 ++ wsX20 ++ wsX30)
def wsX4_surely_r1 : List Cond := [Cond.fieldLink RX4 12 "MajorityIndex" "row" "LMajorityIndex$Row;", Cond.constant RX4 102 (-40000), Cond.fieldLink RX4 35 "MajorityIndex" "votes" "LMajorityIndex$Votes;", Cond.fieldLink RX4 174 "MajorityIndex$Votes" "size" "I", Cond.fieldLink RX4 136 "MajorityIndex$Votes" "number" "[I", Cond.fieldLink RX4 180 "MajorityIndex$Votes" "lost" "I", Cond.fieldLink RX4 133 "MajorityIndex$Votes" "value" "[I", Cond.methodLink RX4 79 yX0_hasRange, Cond.instanceMethod yX0_hasRange, Cond.selects RX0 yX0_hasRange yX0_hasRange, Cond.initialized RX0, Cond.code yX0_hasRange cX0_hasRange 3 (some .boolean), Cond.fieldLink RX0 15 "MajorityIndex$Row" "length" "I", Cond.methodLink RX4 71 yX4_laidTree, Cond.instanceMethod yX4_laidTree, Cond.selects RX4 yX4_laidTree yX4_laidTree, Cond.initialized RX4, Cond.code yX4_laidTree cX4_laidTree 1 (some (.object "MajorityIndex$Tree")), Cond.fieldLink RX4 53 "MajorityIndex" "treeIsOld" "Z", Cond.fieldLink RX4 21 "MajorityIndex" "tree" "LMajorityIndex$Tree;", Cond.fieldLink RX4 49 "MajorityIndex" "slotsNow" "I", Cond.fieldLink RX4 204 "MajorityIndex$Tree" "slotsHere" "I", Cond.fieldLink RX4 57 "MajorityIndex$Row" "length" "I", Cond.methodLink RX4 259 yX2_layRanges]
def wsX4_surely_r2 : List Cond := [Cond.instanceMethod yX2_layRanges, Cond.selects RX2 yX2_layRanges yX2_layRanges, Cond.initialized RX2, Cond.code yX2_layRanges cX2_layRanges 2 none, Cond.fieldLink RX2 40 "MajorityIndex$Tree" "row" "LMajorityIndex$Row;", Cond.fieldLink RX2 44 "MajorityIndex$Row" "length" "I", Cond.fieldLink RX2 50 "MajorityIndex$Tree" "nodes" "I", Cond.fieldLink RX2 18 "MajorityIndex$Tree" "from" "[I", Cond.fieldLink RX2 22 "MajorityIndex$Tree" "to" "[I", Cond.methodLink RX2 53 yX2_layBelow, Cond.instanceMethod yX2_layBelow, Cond.selects RX2 yX2_layBelow yX2_layBelow, Cond.code yX2_layBelow cX2_layBelow 4 none, Cond.methodLink RX2 57 yX2_rightBelow, Cond.instanceMethod yX2_rightBelow, Cond.selects RX2 yX2_rightBelow yX2_rightBelow, Cond.code yX2_rightBelow cX2_rightBelow 3 (some .int), Cond.methodLink RX4 87 yX2_renew, Cond.instanceMethod yX2_renew, Cond.selects RX2 yX2_renew yX2_renew, Cond.code yX2_renew cX2_renew 5 (some .int), Cond.methodLink RX2 61 yX2_putTogether, Cond.instanceMethod yX2_putTogether, Cond.selects RX2 yX2_putTogether yX2_putTogether]
def wsX4_surely_r3 : List Cond := [Cond.code yX2_putTogether cX2_putTogether 2 none, Cond.fieldLink RX2 12 "MajorityIndex$Tree" "joined" "LMajorityIndex$Votes;", Cond.fieldLink RX2 74 "MajorityIndex$Row" "cell" "[I", Cond.fieldLink RX2 85 "MajorityIndex$Tree" "slotsHere" "I", Cond.methodLink RX2 71 yX3_clear, Cond.instanceMethod yX3_clear, Cond.selects RX3 yX3_clear yX3_clear, Cond.initialized RX3, Cond.code yX3_clear cX3_clear 1 none, Cond.fieldLink RX3 18 "MajorityIndex$Votes" "size" "I", Cond.fieldLink RX3 22 "MajorityIndex$Votes" "lost" "I", Cond.fieldLink RX3 25 "MajorityIndex$Votes" "lessBy" "I", Cond.methodLink RX2 77 yX3_add, Cond.instanceMethod yX3_add, Cond.selects RX3 yX3_add yX3_add, Cond.code yX3_add cX3_add 4 none, Cond.fieldLink RX3 9 "MajorityIndex$Votes" "value" "[I", Cond.fieldLink RX3 15 "MajorityIndex$Votes" "number" "[I", Cond.methodLink RX2 81 yX2_joinNode, Cond.instanceMethod yX2_joinNode, Cond.selects RX2 yX2_joinNode yX2_joinNode, Cond.code yX2_joinNode cX2_joinNode 5 none, Cond.fieldLink RX2 25 "MajorityIndex$Tree" "size" "[I", Cond.fieldLink RX2 34 "MajorityIndex$Tree" "value" "[I"]
def wsX4_surely_r4 : List Cond := [Cond.fieldLink RX2 37 "MajorityIndex$Tree" "number" "[I", Cond.fieldLink RX2 91 "MajorityIndex$Votes" "lost" "I", Cond.fieldLink RX2 28 "MajorityIndex$Tree" "lossOf" "[I", Cond.methodLink RX2 88 yX3_cancel, Cond.instanceMethod yX3_cancel, Cond.selects RX3 yX3_cancel yX3_cancel, Cond.code yX3_cancel cX3_cancel 4 none, Cond.methodLink RX3 32 yX3_order, Cond.instanceMethod yX3_order, Cond.selects RX3 yX3_order yX3_order, Cond.code yX3_order cX3_order 3 none, Cond.methodLink RX3 35 yX3_isAhead, Cond.instanceMethod yX3_isAhead, Cond.selects RX3 yX3_isAhead yX3_isAhead, Cond.code yX3_isAhead cX3_isAhead 3 (some .boolean), Cond.methodLink RX3 39 yX3_exchange, Cond.instanceMethod yX3_exchange, Cond.selects RX3 yX3_exchange yX3_exchange, Cond.code yX3_exchange cX3_exchange 5 none, Cond.methodLink RX2 64 yX2_isJoined, Cond.instanceMethod yX2_isJoined, Cond.selects RX2 yX2_isJoined yX2_isJoined, Cond.code yX2_isJoined cX2_isJoined 4 (some .boolean), Cond.fieldLink RX2 94 "MajorityIndex$Votes" "size" "I"]
def wsX4_surely_r5 : List Cond := [Cond.fieldLink RX2 96 "MajorityIndex$Votes" "value" "[I", Cond.fieldLink RX2 97 "MajorityIndex$Votes" "number" "[I", Cond.methodLink RX2 68 yX2_keepJoined, Cond.instanceMethod yX2_keepJoined, Cond.selects RX2 yX2_keepJoined yX2_keepJoined, Cond.code yX2_keepJoined cX2_keepJoined 4 none, Cond.methodLink RX2 98 Lib.Math.min.name, Cond.static Lib.Math.min.name, Cond.initialized "java/lang/Math", Cond.code Lib.Math.min.name Lib.Math.min.code 2 (some .int), Cond.fieldLink RX2 31 "MajorityIndex$Tree" "lessBy" "[I", Cond.fieldLink RX2 104 "MajorityIndex$Votes" "lessBy" "I", Cond.methodLink RX4 170 yX2_gather, Cond.instanceMethod yX2_gather, Cond.selects RX2 yX2_gather yX2_gather, Cond.code yX2_gather cX2_gather 6 none, Cond.methodLink RX2 106 yX2_isPart, Cond.instanceMethod yX2_isPart, Cond.selects RX2 yX2_isPart yX2_isPart, Cond.code yX2_isPart cX2_isPart 4 (some .boolean)]
def wsX4_surely : List Cond := .code yX4_surely cX4_surely 4 (some .int) :: ((wsX4_surely_r1 ++ (wsX4_surely_r2 ++ (wsX4_surely_r3 ++ (wsX4_surely_r4 ++ wsX4_surely_r5)))) ++ wsX40 ++ wsX30 ++ wsX00 ++ wsX20)
def wsX4_isEnough : List Cond := .code yX4_isEnough cX4_isEnough 3 (some .boolean) :: ([.fieldLink RX4 49 "MajorityIndex" "slotsNow" "I"] ++ wsX40)
def wsX4_gatherHeavy_r1 : List Cond := [Cond.fieldLink RX4 35 "MajorityIndex" "votes" "LMajorityIndex$Votes;", Cond.fieldLink RX4 174 "MajorityIndex$Votes" "size" "I", Cond.fieldLink RX4 136 "MajorityIndex$Votes" "number" "[I", Cond.fieldLink RX4 12 "MajorityIndex" "row" "LMajorityIndex$Row;", Cond.fieldLink RX4 133 "MajorityIndex$Votes" "value" "[I", Cond.methodLink RX4 170 yX2_gather, Cond.instanceMethod yX2_gather, Cond.selects RX2 yX2_gather yX2_gather, Cond.initialized RX2, Cond.code yX2_gather cX2_gather 6 none, Cond.fieldLink RX2 50 "MajorityIndex$Tree" "nodes" "I", Cond.fieldLink RX2 22 "MajorityIndex$Tree" "to" "[I", Cond.fieldLink RX2 85 "MajorityIndex$Tree" "slotsHere" "I", Cond.methodLink RX2 71 yX3_clear, Cond.instanceMethod yX3_clear, Cond.selects RX3 yX3_clear yX3_clear, Cond.initialized RX3, Cond.code yX3_clear cX3_clear 1 none, Cond.fieldLink RX3 18 "MajorityIndex$Votes" "size" "I", Cond.fieldLink RX3 22 "MajorityIndex$Votes" "lost" "I", Cond.fieldLink RX3 25 "MajorityIndex$Votes" "lessBy" "I", Cond.methodLink RX2 106 yX2_isPart, Cond.instanceMethod yX2_isPart, Cond.selects RX2 yX2_isPart yX2_isPart]
def wsX4_gatherHeavy_r2 : List Cond := [Cond.code yX2_isPart cX2_isPart 4 (some .boolean), Cond.fieldLink RX2 18 "MajorityIndex$Tree" "from" "[I", Cond.methodLink RX2 81 yX2_joinNode, Cond.instanceMethod yX2_joinNode, Cond.selects RX2 yX2_joinNode yX2_joinNode, Cond.code yX2_joinNode cX2_joinNode 5 none, Cond.fieldLink RX2 25 "MajorityIndex$Tree" "size" "[I", Cond.fieldLink RX2 34 "MajorityIndex$Tree" "value" "[I", Cond.fieldLink RX2 37 "MajorityIndex$Tree" "number" "[I", Cond.fieldLink RX2 91 "MajorityIndex$Votes" "lost" "I", Cond.fieldLink RX2 28 "MajorityIndex$Tree" "lossOf" "[I", Cond.methodLink RX2 77 yX3_add, Cond.instanceMethod yX3_add, Cond.selects RX3 yX3_add yX3_add, Cond.code yX3_add cX3_add 4 none, Cond.fieldLink RX3 9 "MajorityIndex$Votes" "value" "[I", Cond.fieldLink RX3 15 "MajorityIndex$Votes" "number" "[I", Cond.methodLink RX2 88 yX3_cancel, Cond.instanceMethod yX3_cancel, Cond.selects RX3 yX3_cancel yX3_cancel, Cond.code yX3_cancel cX3_cancel 4 none, Cond.methodLink RX3 32 yX3_order, Cond.instanceMethod yX3_order, Cond.selects RX3 yX3_order yX3_order]
def wsX4_gatherHeavy_r3 : List Cond := [Cond.code yX3_order cX3_order 3 none, Cond.methodLink RX3 35 yX3_isAhead, Cond.instanceMethod yX3_isAhead, Cond.selects RX3 yX3_isAhead yX3_isAhead, Cond.code yX3_isAhead cX3_isAhead 3 (some .boolean), Cond.methodLink RX3 39 yX3_exchange, Cond.instanceMethod yX3_exchange, Cond.selects RX3 yX3_exchange yX3_exchange, Cond.code yX3_exchange cX3_exchange 5 none, Cond.methodLink RX4 113 yX0_oftenIn, Cond.instanceMethod yX0_oftenIn, Cond.selects RX0 yX0_oftenIn yX0_oftenIn, Cond.initialized RX0, Cond.code yX0_oftenIn cX0_oftenIn 6 (some .int), Cond.fieldLink RX0 9 "MajorityIndex$Row" "cell" "[I", Cond.methodLink RX4 262 yX3_keepHeavy, Cond.instanceMethod yX3_keepHeavy, Cond.selects RX3 yX3_keepHeavy yX3_keepHeavy, Cond.code yX3_keepHeavy cX3_keepHeavy 6 none, Cond.static yX4_isHeavy, Cond.initialized RX4, Cond.code yX4_isHeavy cX4_isHeavy 4 (some .boolean)]
def wsX4_gatherHeavy : List Cond := .code yX4_gatherHeavy cX4_gatherHeavy 7 none :: ((wsX4_gatherHeavy_r1 ++ (wsX4_gatherHeavy_r2 ++ wsX4_gatherHeavy_r3)) ++ wsX40 ++ wsX30 ++ wsX20 ++ wsX00)
def wsX4_heavy_r1 : List Cond := [Cond.fieldLink RX4 12 "MajorityIndex" "row" "LMajorityIndex$Row;", Cond.fieldLink RX4 35 "MajorityIndex" "votes" "LMajorityIndex$Votes;", Cond.fieldLink RX4 174 "MajorityIndex$Votes" "size" "I", Cond.methodLink RX4 79 yX0_hasRange, Cond.instanceMethod yX0_hasRange, Cond.selects RX0 yX0_hasRange yX0_hasRange, Cond.initialized RX0, Cond.code yX0_hasRange cX0_hasRange 3 (some .boolean), Cond.fieldLink RX0 15 "MajorityIndex$Row" "length" "I", Cond.methodLink RX4 186 yX4_isShare, Cond.static yX4_isShare, Cond.initialized RX4, Cond.code yX4_isShare cX4_isShare 2 (some .boolean), Cond.methodLink RX4 189 yX4_isEnough, Cond.instanceMethod yX4_isEnough, Cond.selects RX4 yX4_isEnough yX4_isEnough, Cond.code yX4_isEnough cX4_isEnough 3 (some .boolean), Cond.fieldLink RX4 49 "MajorityIndex" "slotsNow" "I", Cond.methodLink RX4 71 yX4_laidTree, Cond.instanceMethod yX4_laidTree, Cond.selects RX4 yX4_laidTree yX4_laidTree, Cond.code yX4_laidTree cX4_laidTree 1 (some (.object "MajorityIndex$Tree")), Cond.fieldLink RX4 53 "MajorityIndex" "treeIsOld" "Z", Cond.fieldLink RX4 21 "MajorityIndex" "tree" "LMajorityIndex$Tree;"]
def wsX4_heavy_r2 : List Cond := [Cond.fieldLink RX4 204 "MajorityIndex$Tree" "slotsHere" "I", Cond.fieldLink RX4 57 "MajorityIndex$Row" "length" "I", Cond.methodLink RX4 259 yX2_layRanges, Cond.instanceMethod yX2_layRanges, Cond.selects RX2 yX2_layRanges yX2_layRanges, Cond.initialized RX2, Cond.code yX2_layRanges cX2_layRanges 2 none, Cond.fieldLink RX2 40 "MajorityIndex$Tree" "row" "LMajorityIndex$Row;", Cond.fieldLink RX2 44 "MajorityIndex$Row" "length" "I", Cond.fieldLink RX2 50 "MajorityIndex$Tree" "nodes" "I", Cond.fieldLink RX2 18 "MajorityIndex$Tree" "from" "[I", Cond.fieldLink RX2 22 "MajorityIndex$Tree" "to" "[I", Cond.methodLink RX2 53 yX2_layBelow, Cond.instanceMethod yX2_layBelow, Cond.selects RX2 yX2_layBelow yX2_layBelow, Cond.code yX2_layBelow cX2_layBelow 4 none, Cond.methodLink RX2 57 yX2_rightBelow, Cond.instanceMethod yX2_rightBelow, Cond.selects RX2 yX2_rightBelow yX2_rightBelow, Cond.code yX2_rightBelow cX2_rightBelow 3 (some .int), Cond.methodLink RX4 87 yX2_renew, Cond.instanceMethod yX2_renew, Cond.selects RX2 yX2_renew yX2_renew, Cond.code yX2_renew cX2_renew 5 (some .int)]
def wsX4_heavy_r3 : List Cond := [Cond.methodLink RX2 61 yX2_putTogether, Cond.instanceMethod yX2_putTogether, Cond.selects RX2 yX2_putTogether yX2_putTogether, Cond.code yX2_putTogether cX2_putTogether 2 none, Cond.fieldLink RX2 12 "MajorityIndex$Tree" "joined" "LMajorityIndex$Votes;", Cond.fieldLink RX2 74 "MajorityIndex$Row" "cell" "[I", Cond.fieldLink RX2 85 "MajorityIndex$Tree" "slotsHere" "I", Cond.methodLink RX2 71 yX3_clear, Cond.instanceMethod yX3_clear, Cond.selects RX3 yX3_clear yX3_clear, Cond.initialized RX3, Cond.code yX3_clear cX3_clear 1 none, Cond.fieldLink RX3 18 "MajorityIndex$Votes" "size" "I", Cond.fieldLink RX3 22 "MajorityIndex$Votes" "lost" "I", Cond.fieldLink RX3 25 "MajorityIndex$Votes" "lessBy" "I", Cond.methodLink RX2 77 yX3_add, Cond.instanceMethod yX3_add, Cond.selects RX3 yX3_add yX3_add, Cond.code yX3_add cX3_add 4 none, Cond.fieldLink RX3 9 "MajorityIndex$Votes" "value" "[I", Cond.fieldLink RX3 15 "MajorityIndex$Votes" "number" "[I", Cond.methodLink RX2 81 yX2_joinNode, Cond.instanceMethod yX2_joinNode, Cond.selects RX2 yX2_joinNode yX2_joinNode]
def wsX4_heavy_r4 : List Cond := [Cond.code yX2_joinNode cX2_joinNode 5 none, Cond.fieldLink RX2 25 "MajorityIndex$Tree" "size" "[I", Cond.fieldLink RX2 34 "MajorityIndex$Tree" "value" "[I", Cond.fieldLink RX2 37 "MajorityIndex$Tree" "number" "[I", Cond.fieldLink RX2 91 "MajorityIndex$Votes" "lost" "I", Cond.fieldLink RX2 28 "MajorityIndex$Tree" "lossOf" "[I", Cond.methodLink RX2 88 yX3_cancel, Cond.instanceMethod yX3_cancel, Cond.selects RX3 yX3_cancel yX3_cancel, Cond.code yX3_cancel cX3_cancel 4 none, Cond.methodLink RX3 32 yX3_order, Cond.instanceMethod yX3_order, Cond.selects RX3 yX3_order yX3_order, Cond.code yX3_order cX3_order 3 none, Cond.methodLink RX3 35 yX3_isAhead, Cond.instanceMethod yX3_isAhead, Cond.selects RX3 yX3_isAhead yX3_isAhead, Cond.code yX3_isAhead cX3_isAhead 3 (some .boolean), Cond.methodLink RX3 39 yX3_exchange, Cond.instanceMethod yX3_exchange, Cond.selects RX3 yX3_exchange yX3_exchange, Cond.code yX3_exchange cX3_exchange 5 none, Cond.methodLink RX2 64 yX2_isJoined, Cond.instanceMethod yX2_isJoined]
def wsX4_heavy_r5 : List Cond := [Cond.selects RX2 yX2_isJoined yX2_isJoined, Cond.code yX2_isJoined cX2_isJoined 4 (some .boolean), Cond.fieldLink RX2 94 "MajorityIndex$Votes" "size" "I", Cond.fieldLink RX2 96 "MajorityIndex$Votes" "value" "[I", Cond.fieldLink RX2 97 "MajorityIndex$Votes" "number" "[I", Cond.methodLink RX2 68 yX2_keepJoined, Cond.instanceMethod yX2_keepJoined, Cond.selects RX2 yX2_keepJoined yX2_keepJoined, Cond.code yX2_keepJoined cX2_keepJoined 4 none, Cond.methodLink RX2 98 Lib.Math.min.name, Cond.static Lib.Math.min.name, Cond.initialized "java/lang/Math", Cond.code Lib.Math.min.name Lib.Math.min.code 2 (some .int), Cond.fieldLink RX2 31 "MajorityIndex$Tree" "lessBy" "[I", Cond.fieldLink RX2 104 "MajorityIndex$Votes" "lessBy" "I", Cond.methodLink RX4 192 yX4_gatherHeavy, Cond.instanceMethod yX4_gatherHeavy, Cond.selects RX4 yX4_gatherHeavy yX4_gatherHeavy, Cond.code yX4_gatherHeavy cX4_gatherHeavy 7 none, Cond.fieldLink RX4 136 "MajorityIndex$Votes" "number" "[I", Cond.fieldLink RX4 133 "MajorityIndex$Votes" "value" "[I", Cond.methodLink RX4 170 yX2_gather, Cond.instanceMethod yX2_gather, Cond.selects RX2 yX2_gather yX2_gather]
def wsX4_heavy_r6 : List Cond := [Cond.code yX2_gather cX2_gather 6 none, Cond.methodLink RX2 106 yX2_isPart, Cond.instanceMethod yX2_isPart, Cond.selects RX2 yX2_isPart yX2_isPart, Cond.code yX2_isPart cX2_isPart 4 (some .boolean), Cond.methodLink RX4 113 yX0_oftenIn, Cond.instanceMethod yX0_oftenIn, Cond.selects RX0 yX0_oftenIn yX0_oftenIn, Cond.code yX0_oftenIn cX0_oftenIn 6 (some .int), Cond.fieldLink RX0 9 "MajorityIndex$Row" "cell" "[I", Cond.methodLink RX4 262 yX3_keepHeavy, Cond.instanceMethod yX3_keepHeavy, Cond.selects RX3 yX3_keepHeavy yX3_keepHeavy, Cond.code yX3_keepHeavy cX3_keepHeavy 6 none, Cond.static yX4_isHeavy, Cond.code yX4_isHeavy cX4_isHeavy 4 (some .boolean)]
def wsX4_heavy : List Cond := .code yX4_heavy cX4_heavy 5 (some .int) :: ((wsX4_heavy_r1 ++ (wsX4_heavy_r2 ++ (wsX4_heavy_r3 ++ (wsX4_heavy_r4 ++ (wsX4_heavy_r5 ++ wsX4_heavy_r6))))) ++ wsX40 ++ wsX30 ++ wsX00 ++ wsX20)
def wsX4_failed_r1 : List Cond := [Cond.fieldLink RX4 12 "MajorityIndex" "row" "LMajorityIndex$Row;", Cond.fieldLink RX4 35 "MajorityIndex" "votes" "LMajorityIndex$Votes;", Cond.fieldLink RX4 174 "MajorityIndex$Votes" "size" "I", Cond.methodLink RX4 79 yX0_hasRange, Cond.instanceMethod yX0_hasRange, Cond.selects RX0 yX0_hasRange yX0_hasRange, Cond.initialized RX0, Cond.code yX0_hasRange cX0_hasRange 3 (some .boolean), Cond.fieldLink RX0 15 "MajorityIndex$Row" "length" "I", Cond.methodLink RX4 186 yX4_isShare, Cond.static yX4_isShare, Cond.initialized RX4, Cond.code yX4_isShare cX4_isShare 2 (some .boolean), Cond.methodLink RX4 189 yX4_isEnough, Cond.instanceMethod yX4_isEnough, Cond.selects RX4 yX4_isEnough yX4_isEnough, Cond.code yX4_isEnough cX4_isEnough 3 (some .boolean), Cond.fieldLink RX4 49 "MajorityIndex" "slotsNow" "I", Cond.methodLink RX4 71 yX4_laidTree, Cond.instanceMethod yX4_laidTree, Cond.selects RX4 yX4_laidTree yX4_laidTree, Cond.code yX4_laidTree cX4_laidTree 1 (some (.object "MajorityIndex$Tree")), Cond.fieldLink RX4 53 "MajorityIndex" "treeIsOld" "Z", Cond.fieldLink RX4 21 "MajorityIndex" "tree" "LMajorityIndex$Tree;"]
def wsX4_failed_r2 : List Cond := [Cond.fieldLink RX4 204 "MajorityIndex$Tree" "slotsHere" "I", Cond.fieldLink RX4 57 "MajorityIndex$Row" "length" "I", Cond.methodLink RX4 259 yX2_layRanges, Cond.instanceMethod yX2_layRanges, Cond.selects RX2 yX2_layRanges yX2_layRanges, Cond.initialized RX2, Cond.code yX2_layRanges cX2_layRanges 2 none, Cond.fieldLink RX2 40 "MajorityIndex$Tree" "row" "LMajorityIndex$Row;", Cond.fieldLink RX2 44 "MajorityIndex$Row" "length" "I", Cond.fieldLink RX2 50 "MajorityIndex$Tree" "nodes" "I", Cond.fieldLink RX2 18 "MajorityIndex$Tree" "from" "[I", Cond.fieldLink RX2 22 "MajorityIndex$Tree" "to" "[I", Cond.methodLink RX2 53 yX2_layBelow, Cond.instanceMethod yX2_layBelow, Cond.selects RX2 yX2_layBelow yX2_layBelow, Cond.code yX2_layBelow cX2_layBelow 4 none, Cond.methodLink RX2 57 yX2_rightBelow, Cond.instanceMethod yX2_rightBelow, Cond.selects RX2 yX2_rightBelow yX2_rightBelow, Cond.code yX2_rightBelow cX2_rightBelow 3 (some .int), Cond.methodLink RX4 87 yX2_renew, Cond.instanceMethod yX2_renew, Cond.selects RX2 yX2_renew yX2_renew, Cond.code yX2_renew cX2_renew 5 (some .int)]
def wsX4_failed_r3 : List Cond := [Cond.methodLink RX2 61 yX2_putTogether, Cond.instanceMethod yX2_putTogether, Cond.selects RX2 yX2_putTogether yX2_putTogether, Cond.code yX2_putTogether cX2_putTogether 2 none, Cond.fieldLink RX2 12 "MajorityIndex$Tree" "joined" "LMajorityIndex$Votes;", Cond.fieldLink RX2 74 "MajorityIndex$Row" "cell" "[I", Cond.fieldLink RX2 85 "MajorityIndex$Tree" "slotsHere" "I", Cond.methodLink RX2 71 yX3_clear, Cond.instanceMethod yX3_clear, Cond.selects RX3 yX3_clear yX3_clear, Cond.initialized RX3, Cond.code yX3_clear cX3_clear 1 none, Cond.fieldLink RX3 18 "MajorityIndex$Votes" "size" "I", Cond.fieldLink RX3 22 "MajorityIndex$Votes" "lost" "I", Cond.fieldLink RX3 25 "MajorityIndex$Votes" "lessBy" "I", Cond.methodLink RX2 77 yX3_add, Cond.instanceMethod yX3_add, Cond.selects RX3 yX3_add yX3_add, Cond.code yX3_add cX3_add 4 none, Cond.fieldLink RX3 9 "MajorityIndex$Votes" "value" "[I", Cond.fieldLink RX3 15 "MajorityIndex$Votes" "number" "[I", Cond.methodLink RX2 81 yX2_joinNode, Cond.instanceMethod yX2_joinNode, Cond.selects RX2 yX2_joinNode yX2_joinNode]
def wsX4_failed_r4 : List Cond := [Cond.code yX2_joinNode cX2_joinNode 5 none, Cond.fieldLink RX2 25 "MajorityIndex$Tree" "size" "[I", Cond.fieldLink RX2 34 "MajorityIndex$Tree" "value" "[I", Cond.fieldLink RX2 37 "MajorityIndex$Tree" "number" "[I", Cond.fieldLink RX2 91 "MajorityIndex$Votes" "lost" "I", Cond.fieldLink RX2 28 "MajorityIndex$Tree" "lossOf" "[I", Cond.methodLink RX2 88 yX3_cancel, Cond.instanceMethod yX3_cancel, Cond.selects RX3 yX3_cancel yX3_cancel, Cond.code yX3_cancel cX3_cancel 4 none, Cond.methodLink RX3 32 yX3_order, Cond.instanceMethod yX3_order, Cond.selects RX3 yX3_order yX3_order, Cond.code yX3_order cX3_order 3 none, Cond.methodLink RX3 35 yX3_isAhead, Cond.instanceMethod yX3_isAhead, Cond.selects RX3 yX3_isAhead yX3_isAhead, Cond.code yX3_isAhead cX3_isAhead 3 (some .boolean), Cond.methodLink RX3 39 yX3_exchange, Cond.instanceMethod yX3_exchange, Cond.selects RX3 yX3_exchange yX3_exchange, Cond.code yX3_exchange cX3_exchange 5 none, Cond.methodLink RX2 64 yX2_isJoined, Cond.instanceMethod yX2_isJoined]
def wsX4_failed_r5 : List Cond := [Cond.selects RX2 yX2_isJoined yX2_isJoined, Cond.code yX2_isJoined cX2_isJoined 4 (some .boolean), Cond.fieldLink RX2 94 "MajorityIndex$Votes" "size" "I", Cond.fieldLink RX2 96 "MajorityIndex$Votes" "value" "[I", Cond.fieldLink RX2 97 "MajorityIndex$Votes" "number" "[I", Cond.methodLink RX2 68 yX2_keepJoined, Cond.instanceMethod yX2_keepJoined, Cond.selects RX2 yX2_keepJoined yX2_keepJoined, Cond.code yX2_keepJoined cX2_keepJoined 4 none, Cond.methodLink RX2 98 Lib.Math.min.name, Cond.static Lib.Math.min.name, Cond.initialized "java/lang/Math", Cond.code Lib.Math.min.name Lib.Math.min.code 2 (some .int), Cond.fieldLink RX2 31 "MajorityIndex$Tree" "lessBy" "[I", Cond.fieldLink RX2 104 "MajorityIndex$Votes" "lessBy" "I", Cond.methodLink RX4 170 yX2_gather, Cond.instanceMethod yX2_gather, Cond.selects RX2 yX2_gather yX2_gather, Cond.code yX2_gather cX2_gather 6 none, Cond.methodLink RX2 106 yX2_isPart, Cond.instanceMethod yX2_isPart, Cond.selects RX2 yX2_isPart yX2_isPart, Cond.code yX2_isPart cX2_isPart 4 (some .boolean), Cond.methodLink RX4 192 yX4_gatherHeavy]
def wsX4_failed_r6 : List Cond := [Cond.instanceMethod yX4_gatherHeavy, Cond.selects RX4 yX4_gatherHeavy yX4_gatherHeavy, Cond.code yX4_gatherHeavy cX4_gatherHeavy 7 none, Cond.fieldLink RX4 136 "MajorityIndex$Votes" "number" "[I", Cond.fieldLink RX4 133 "MajorityIndex$Votes" "value" "[I", Cond.methodLink RX4 113 yX0_oftenIn, Cond.instanceMethod yX0_oftenIn, Cond.selects RX0 yX0_oftenIn yX0_oftenIn, Cond.code yX0_oftenIn cX0_oftenIn 6 (some .int), Cond.fieldLink RX0 9 "MajorityIndex$Row" "cell" "[I", Cond.methodLink RX4 262 yX3_keepHeavy, Cond.instanceMethod yX3_keepHeavy, Cond.selects RX3 yX3_keepHeavy yX3_keepHeavy, Cond.code yX3_keepHeavy cX3_keepHeavy 6 none, Cond.static yX4_isHeavy, Cond.code yX4_isHeavy cX4_isHeavy 4 (some .boolean)]
def wsX4_failed : List Cond := .code yX4_failed cX4_failed 7 (some .int) :: ((wsX4_failed_r1 ++ (wsX4_failed_r2 ++ (wsX4_failed_r3 ++ (wsX4_failed_r4 ++ (wsX4_failed_r5 ++ wsX4_failed_r6))))) ++ wsX40 ++ wsX30 ++ wsX00 ++ wsX20)
theorem mi_wsX4_node_wsX4_node_r1 : ∀ w ∈ wsX4_node_r1, w ∈ wsX4_node := fun _ h => (List.mem_cons_of_mem _ (List.mem_append_left _ (List.mem_append_left _ (List.mem_append_left _ (List.mem_append_left _ (List.mem_append_left _ h))))))
theorem mi_wsX4_node_wsX00 : ∀ w ∈ wsX00, w ∈ wsX4_node := fun _ h => (List.mem_cons_of_mem _ (List.mem_append_left _ (List.mem_append_right _ h)))
set_option maxRecDepth 20000 in
theorem ggX4_node_X0_hasRange : GoodIn wsX4_node wsX0_hasRange := goodIn_m _ [(wsX4_node_r1, [false, false, false, false, false, false, true, true]), (wsX00, [true, true])] (gm_c mi_wsX4_node_wsX4_node_r1 (gm_c mi_wsX4_node_wsX00 gm_n)) rfl (by decide +kernel)
set_option maxRecDepth 20000 in
theorem gX4_node_X0_hasRange : GoodIn wsX4_node (wsV RX4 79 RX0 yX0_hasRange wsX0_hasRange) := goodIn_app (goodIn_m _ [(wsX4_node_r1, [false, false, true, true, true, true])] (gm_c mi_wsX4_node_wsX4_node_r1 gm_n) rfl (by decide +kernel)) ggX4_node_X0_hasRange
theorem mi_wsX4_node_wsX4_node_r2 : ∀ w ∈ wsX4_node_r2, w ∈ wsX4_node := fun _ h => (List.mem_cons_of_mem _ (List.mem_append_left _ (List.mem_append_left _ (List.mem_append_left _ (List.mem_append_left _ (List.mem_append_right _ (List.mem_append_left _ h)))))))
theorem mi_wsX4_node_wsX4_node_r3 : ∀ w ∈ wsX4_node_r3, w ∈ wsX4_node := fun _ h => (List.mem_cons_of_mem _ (List.mem_append_left _ (List.mem_append_left _ (List.mem_append_left _ (List.mem_append_left _ (List.mem_append_right _ (List.mem_append_right _ (List.mem_append_left _ h))))))))
theorem mi_wsX4_node_wsX4_node_r4 : ∀ w ∈ wsX4_node_r4, w ∈ wsX4_node := fun _ h => (List.mem_cons_of_mem _ (List.mem_append_left _ (List.mem_append_left _ (List.mem_append_left _ (List.mem_append_left _ (List.mem_append_right _ (List.mem_append_right _ (List.mem_append_right _ (List.mem_append_left _ h)))))))))
theorem mi_wsX4_node_wsX4_node_r5 : ∀ w ∈ wsX4_node_r5, w ∈ wsX4_node := fun _ h => (List.mem_cons_of_mem _ (List.mem_append_left _ (List.mem_append_left _ (List.mem_append_left _ (List.mem_append_left _ (List.mem_append_right _ (List.mem_append_right _ (List.mem_append_right _ (List.mem_append_right _ h)))))))))
theorem mi_wsX4_node_wsX40 : ∀ w ∈ wsX40, w ∈ wsX4_node := fun _ h => (List.mem_cons_of_mem _ (List.mem_append_left _ (List.mem_append_left _ (List.mem_append_left _ (List.mem_append_right _ h)))))
theorem mi_wsX4_node_wsX20 : ∀ w ∈ wsX20, w ∈ wsX4_node := fun _ h => (List.mem_cons_of_mem _ (List.mem_append_left _ (List.mem_append_left _ (List.mem_append_right _ h))))
theorem mi_wsX4_node_wsX30 : ∀ w ∈ wsX30, w ∈ wsX4_node := fun _ h => (List.mem_cons_of_mem _ (List.mem_append_right _ h))
set_option maxRecDepth 20000 in
theorem ggX4_node_X4_laidTree : GoodIn wsX4_node wsX4_laidTree := goodIn_m _ [(wsX4_node_r1, [false, false, false, false, false, false, false, false, false, false, false, false, true, true, true, true, true]), (wsX4_node_r1, [true, false, false, false, false, false, false, false, false, false, false, false, false, false, false, false, false, true, true, true, true, true, true, true]), (wsX4_node_r2, [true, true, true, true, true, true, true, true, true, true, true, true, true, true, true, true, true, true, true, true, true, true, true, true]), (wsX4_node_r3, [true, true, true, true, true, true, true, true, true, true, true, true, true, true, true, true, true, true, true, true, true, true, true, true]), (wsX4_node_r4, [true, true, true, true, true, true, true, true, true, true, true, true, true, true, true, true, true, true, true, true, true, true, true, true]), (wsX4_node_r5, [true, true, true, true, true, true, true]), (wsX40, [true, true, true, true, true, true, true, true, true]), (wsX20, [true, true, true, true, true, true, true, true, true, true, true]), (wsX00, [true, true]), (wsX30, [true, true, true, true, true])] (gm_c mi_wsX4_node_wsX4_node_r1 (gm_c mi_wsX4_node_wsX4_node_r1 (gm_c mi_wsX4_node_wsX4_node_r2 (gm_c mi_wsX4_node_wsX4_node_r3 (gm_c mi_wsX4_node_wsX4_node_r4 (gm_c mi_wsX4_node_wsX4_node_r5 (gm_c mi_wsX4_node_wsX40 (gm_c mi_wsX4_node_wsX20 (gm_c mi_wsX4_node_wsX00 (gm_c mi_wsX4_node_wsX30 gm_n)))))))))) rfl (by decide +kernel)
set_option maxRecDepth 20000 in
theorem gX4_node_X4_laidTree : GoodIn wsX4_node (wsV RX4 71 RX4 yX4_laidTree wsX4_laidTree) := goodIn_app (goodIn_m _ [(wsX4_node_r1, [false, false, false, false, false, false, false, false, true, true, true, true])] (gm_c mi_wsX4_node_wsX4_node_r1 gm_n) rfl (by decide +kernel)) ggX4_node_X4_laidTree
set_option maxRecDepth 20000 in
theorem ggX4_node_X2_find : GoodIn wsX4_node wsX2_find := goodIn_m _ [(wsX4_node_r5, [false, false, false, false, false, false, false, false, false, false, true]), (wsX4_node_r2, [false, true, true, true]), (wsX20, [true, true, true, true, true, true, true, true, true, true, true])] (gm_c mi_wsX4_node_wsX4_node_r5 (gm_c mi_wsX4_node_wsX4_node_r2 (gm_c mi_wsX4_node_wsX20 gm_n))) rfl (by decide +kernel)
set_option maxRecDepth 20000 in
theorem gX4_node_X2_find : GoodIn wsX4_node (wsV RX4 123 RX2 yX2_find wsX2_find) := goodIn_app (goodIn_m _ [(wsX4_node_r5, [false, false, false, false, false, false, false, true, true, true]), (wsX4_node_r1, [false, false, false, false, false, false, false, false, false, false, false, false, false, false, false, false, false, false, false, false, false, true])] (gm_c mi_wsX4_node_wsX4_node_r5 (gm_c mi_wsX4_node_wsX4_node_r1 gm_n)) rfl (by decide +kernel)) ggX4_node_X2_find
def dt_cX4_node_0 : List (Nat × Nat × Nat × Nat) := [(0, 42, 0, 0), (1, 180, 2, 12), (4, 27, 0, 0), (5, 28, 0, 0), (6, 182, 2, 79), (9, 154, 2, 5), (12, 2, 0, 0), (13, 172, 0, 0), (14, 42, 0, 0), (15, 182, 2, 71), (18, 78, 0, 0), (19, 45, 0, 0), (20, 27, 0, 0), (21, 28, 0, 0), (22, 182, 2, 123), (25, 54, 1, 4), (27, 21, 1, 4), (29, 2, 0, 0), (30, 160, 2, 8), (33, 16, 1, 254)]
theorem da_cX4_node_0 : fw dt_cX4_node_0 0 cX4_node.data.toList = true := by decide +kernel
theorem dX4_node_0 : decode cX4_node 0 = .ok (.aload_n 0, 1) := fo_42 (fw_get da_cX4_node_0 0 rfl)
theorem dX4_node_1 : decode cX4_node 1 = .ok (.getfield 12, 3) := fo_180 (fw_get da_cX4_node_0 1 rfl)
theorem dX4_node_4 : decode cX4_node 4 = .ok (.iload_n 1, 1) := fo_27 (fw_get da_cX4_node_0 2 rfl)
theorem dX4_node_5 : decode cX4_node 5 = .ok (.iload_n 2, 1) := fo_28 (fw_get da_cX4_node_0 3 rfl)
theorem dX4_node_6 : decode cX4_node 6 = .ok (.invokevirtual 79, 3) := fo_182 (fw_get da_cX4_node_0 4 rfl)
theorem dX4_node_9 : decode cX4_node 9 = .ok (.ifCond .ne 5, 3) := fo_154 (fw_get da_cX4_node_0 5 rfl) (by decide +kernel)
theorem dX4_node_12 : decode cX4_node 12 = .ok (.iconst (-1), 1) := fo_2 (fw_get da_cX4_node_0 6 rfl)
theorem dX4_node_13 : decode cX4_node 13 = .ok (.ireturn, 1) := fo_172 (fw_get da_cX4_node_0 7 rfl)
theorem dX4_node_14 : decode cX4_node 14 = .ok (.aload_n 0, 1) := fo_42 (fw_get da_cX4_node_0 8 rfl)
theorem dX4_node_15 : decode cX4_node 15 = .ok (.invokevirtual 71, 3) := fo_182 (fw_get da_cX4_node_0 9 rfl)
theorem dX4_node_18 : decode cX4_node 18 = .ok (.astore_n 3, 1) := fo_78 (fw_get da_cX4_node_0 10 rfl)
theorem dX4_node_19 : decode cX4_node 19 = .ok (.aload_n 3, 1) := fo_45 (fw_get da_cX4_node_0 11 rfl)
theorem dX4_node_20 : decode cX4_node 20 = .ok (.iload_n 1, 1) := fo_27 (fw_get da_cX4_node_0 12 rfl)
theorem dX4_node_21 : decode cX4_node 21 = .ok (.iload_n 2, 1) := fo_28 (fw_get da_cX4_node_0 13 rfl)
theorem dX4_node_22 : decode cX4_node 22 = .ok (.invokevirtual 123, 3) := fo_182 (fw_get da_cX4_node_0 14 rfl)
theorem dX4_node_25 : decode cX4_node 25 = .ok (.istore 4, 2) := fo_54 (fw_get da_cX4_node_0 15 rfl)
theorem dX4_node_27 : decode cX4_node 27 = .ok (.iload 4, 2) := fo_21 (fw_get da_cX4_node_0 16 rfl)
theorem dX4_node_29 : decode cX4_node 29 = .ok (.iconst (-1), 1) := fo_2 (fw_get da_cX4_node_0 17 rfl)
theorem dX4_node_30 : decode cX4_node 30 = .ok (.if_icmp .ne 8, 3) := fo_160 (fw_get da_cX4_node_0 18 rfl) (by decide +kernel)
theorem dX4_node_33 : decode cX4_node 33 = .ok (.bipush (-2), 2) := fo_16 (fw_get da_cX4_node_0 19 rfl) (by decide +kernel)
def dt_cX4_node_1 : List (Nat × Nat × Nat × Nat) := [(35, 167, 2, 10), (38, 45, 0, 0), (39, 180, 2, 126), (42, 21, 1, 4), (44, 46, 0, 0), (45, 172, 0, 0)]
theorem da_cX4_node_1 : fw dt_cX4_node_1 0 cX4_node.data.toList = true := by decide +kernel
theorem dX4_node_35 : decode cX4_node 35 = .ok (.goto 10, 3) := fo_167 (fw_get da_cX4_node_1 0 rfl) (by decide +kernel)
theorem dX4_node_38 : decode cX4_node 38 = .ok (.aload_n 3, 1) := fo_45 (fw_get da_cX4_node_1 1 rfl)
theorem dX4_node_39 : decode cX4_node 39 = .ok (.getfield 126, 3) := fo_180 (fw_get da_cX4_node_1 2 rfl)
theorem dX4_node_42 : decode cX4_node 42 = .ok (.iload 4, 2) := fo_21 (fw_get da_cX4_node_1 3 rfl)
theorem dX4_node_44 : decode cX4_node 44 = .ok (.iaload, 1) := fo_46 (fw_get da_cX4_node_1 4 rfl)
theorem dX4_node_45 : decode cX4_node 45 = .ok (.ireturn, 1) := fo_172 (fw_get da_cX4_node_1 5 rfl)
theorem mi_wsX4_loss_wsX4_loss_r1 : ∀ w ∈ wsX4_loss_r1, w ∈ wsX4_loss := fun _ h => (List.mem_cons_of_mem _ (List.mem_append_left _ (List.mem_append_left _ (List.mem_append_left _ (List.mem_append_left _ (List.mem_append_left _ h))))))
theorem mi_wsX4_loss_wsX00 : ∀ w ∈ wsX00, w ∈ wsX4_loss := fun _ h => (List.mem_cons_of_mem _ (List.mem_append_left _ (List.mem_append_right _ h)))
set_option maxRecDepth 20000 in
theorem ggX4_loss_X0_hasRange : GoodIn wsX4_loss wsX0_hasRange := goodIn_m _ [(wsX4_loss_r1, [false, false, false, false, false, false, true, true]), (wsX00, [true, true])] (gm_c mi_wsX4_loss_wsX4_loss_r1 (gm_c mi_wsX4_loss_wsX00 gm_n)) rfl (by decide +kernel)
set_option maxRecDepth 20000 in
theorem gX4_loss_X0_hasRange : GoodIn wsX4_loss (wsV RX4 79 RX0 yX0_hasRange wsX0_hasRange) := goodIn_app (goodIn_m _ [(wsX4_loss_r1, [false, false, true, true, true, true])] (gm_c mi_wsX4_loss_wsX4_loss_r1 gm_n) rfl (by decide +kernel)) ggX4_loss_X0_hasRange
theorem mi_wsX4_loss_wsX4_loss_r2 : ∀ w ∈ wsX4_loss_r2, w ∈ wsX4_loss := fun _ h => (List.mem_cons_of_mem _ (List.mem_append_left _ (List.mem_append_left _ (List.mem_append_left _ (List.mem_append_left _ (List.mem_append_right _ (List.mem_append_left _ h)))))))
theorem mi_wsX4_loss_wsX4_loss_r3 : ∀ w ∈ wsX4_loss_r3, w ∈ wsX4_loss := fun _ h => (List.mem_cons_of_mem _ (List.mem_append_left _ (List.mem_append_left _ (List.mem_append_left _ (List.mem_append_left _ (List.mem_append_right _ (List.mem_append_right _ (List.mem_append_left _ h))))))))
theorem mi_wsX4_loss_wsX4_loss_r4 : ∀ w ∈ wsX4_loss_r4, w ∈ wsX4_loss := fun _ h => (List.mem_cons_of_mem _ (List.mem_append_left _ (List.mem_append_left _ (List.mem_append_left _ (List.mem_append_left _ (List.mem_append_right _ (List.mem_append_right _ (List.mem_append_right _ (List.mem_append_left _ h)))))))))
theorem mi_wsX4_loss_wsX4_loss_r5 : ∀ w ∈ wsX4_loss_r5, w ∈ wsX4_loss := fun _ h => (List.mem_cons_of_mem _ (List.mem_append_left _ (List.mem_append_left _ (List.mem_append_left _ (List.mem_append_left _ (List.mem_append_right _ (List.mem_append_right _ (List.mem_append_right _ (List.mem_append_right _ h)))))))))
theorem mi_wsX4_loss_wsX40 : ∀ w ∈ wsX40, w ∈ wsX4_loss := fun _ h => (List.mem_cons_of_mem _ (List.mem_append_left _ (List.mem_append_left _ (List.mem_append_left _ (List.mem_append_right _ h)))))
theorem mi_wsX4_loss_wsX20 : ∀ w ∈ wsX20, w ∈ wsX4_loss := fun _ h => (List.mem_cons_of_mem _ (List.mem_append_left _ (List.mem_append_left _ (List.mem_append_right _ h))))
theorem mi_wsX4_loss_wsX30 : ∀ w ∈ wsX30, w ∈ wsX4_loss := fun _ h => (List.mem_cons_of_mem _ (List.mem_append_right _ h))
set_option maxRecDepth 20000 in
theorem ggX4_loss_X4_laidTree : GoodIn wsX4_loss wsX4_laidTree := goodIn_m _ [(wsX4_loss_r1, [false, false, false, false, false, false, false, false, false, false, false, false, true, true, true, true, true]), (wsX4_loss_r1, [true, false, false, false, false, false, false, false, false, false, false, false, false, false, false, false, false, true, true, true, true, true, true, true]), (wsX4_loss_r2, [true, true, true, true, true, true, true, true, true, true, true, true, true, true, true, true, true, true, true, true, true, true, true, true]), (wsX4_loss_r3, [true, true, true, true, true, true, true, true, true, true, true, true, true, true, true, true, true, true, true, true, true, true, true, true]), (wsX4_loss_r4, [true, true, true, true, true, true, true, true, true, true, true, true, true, true, true, true, true, true, true, true, true, true, true, true]), (wsX4_loss_r5, [true, true, true, true, true, true, true]), (wsX40, [true, true, true, true, true, true, true, true, true]), (wsX20, [true, true, true, true, true, true, true, true, true, true, true]), (wsX00, [true, true]), (wsX30, [true, true, true, true, true])] (gm_c mi_wsX4_loss_wsX4_loss_r1 (gm_c mi_wsX4_loss_wsX4_loss_r1 (gm_c mi_wsX4_loss_wsX4_loss_r2 (gm_c mi_wsX4_loss_wsX4_loss_r3 (gm_c mi_wsX4_loss_wsX4_loss_r4 (gm_c mi_wsX4_loss_wsX4_loss_r5 (gm_c mi_wsX4_loss_wsX40 (gm_c mi_wsX4_loss_wsX20 (gm_c mi_wsX4_loss_wsX00 (gm_c mi_wsX4_loss_wsX30 gm_n)))))))))) rfl (by decide +kernel)
set_option maxRecDepth 20000 in
theorem gX4_loss_X4_laidTree : GoodIn wsX4_loss (wsV RX4 71 RX4 yX4_laidTree wsX4_laidTree) := goodIn_app (goodIn_m _ [(wsX4_loss_r1, [false, false, false, false, false, false, false, false, true, true, true, true])] (gm_c mi_wsX4_loss_wsX4_loss_r1 gm_n) rfl (by decide +kernel)) ggX4_loss_X4_laidTree
set_option maxRecDepth 20000 in
theorem ggX4_loss_X2_find : GoodIn wsX4_loss wsX2_find := goodIn_m _ [(wsX4_loss_r5, [false, false, false, false, false, false, false, false, false, false, true]), (wsX4_loss_r2, [false, true, true, true]), (wsX20, [true, true, true, true, true, true, true, true, true, true, true])] (gm_c mi_wsX4_loss_wsX4_loss_r5 (gm_c mi_wsX4_loss_wsX4_loss_r2 (gm_c mi_wsX4_loss_wsX20 gm_n))) rfl (by decide +kernel)
set_option maxRecDepth 20000 in
theorem gX4_loss_X2_find : GoodIn wsX4_loss (wsV RX4 123 RX2 yX2_find wsX2_find) := goodIn_app (goodIn_m _ [(wsX4_loss_r5, [false, false, false, false, false, false, false, true, true, true]), (wsX4_loss_r1, [false, false, false, false, false, false, false, false, false, false, false, false, false, false, false, false, false, false, false, false, false, true])] (gm_c mi_wsX4_loss_wsX4_loss_r5 (gm_c mi_wsX4_loss_wsX4_loss_r1 gm_n)) rfl (by decide +kernel)) ggX4_loss_X2_find
def dt_cX4_loss_0 : List (Nat × Nat × Nat × Nat) := [(0, 42, 0, 0), (1, 180, 2, 12), (4, 27, 0, 0), (5, 28, 0, 0), (6, 182, 2, 79), (9, 154, 2, 5), (12, 2, 0, 0), (13, 172, 0, 0), (14, 42, 0, 0), (15, 182, 2, 71), (18, 78, 0, 0), (19, 45, 0, 0), (20, 27, 0, 0), (21, 28, 0, 0), (22, 182, 2, 123), (25, 54, 1, 4), (27, 21, 1, 4), (29, 2, 0, 0), (30, 160, 2, 8), (33, 16, 1, 254)]
theorem da_cX4_loss_0 : fw dt_cX4_loss_0 0 cX4_loss.data.toList = true := by decide +kernel
theorem dX4_loss_0 : decode cX4_loss 0 = .ok (.aload_n 0, 1) := fo_42 (fw_get da_cX4_loss_0 0 rfl)
theorem dX4_loss_1 : decode cX4_loss 1 = .ok (.getfield 12, 3) := fo_180 (fw_get da_cX4_loss_0 1 rfl)
theorem dX4_loss_4 : decode cX4_loss 4 = .ok (.iload_n 1, 1) := fo_27 (fw_get da_cX4_loss_0 2 rfl)
theorem dX4_loss_5 : decode cX4_loss 5 = .ok (.iload_n 2, 1) := fo_28 (fw_get da_cX4_loss_0 3 rfl)
theorem dX4_loss_6 : decode cX4_loss 6 = .ok (.invokevirtual 79, 3) := fo_182 (fw_get da_cX4_loss_0 4 rfl)
theorem dX4_loss_9 : decode cX4_loss 9 = .ok (.ifCond .ne 5, 3) := fo_154 (fw_get da_cX4_loss_0 5 rfl) (by decide +kernel)
theorem dX4_loss_12 : decode cX4_loss 12 = .ok (.iconst (-1), 1) := fo_2 (fw_get da_cX4_loss_0 6 rfl)
theorem dX4_loss_13 : decode cX4_loss 13 = .ok (.ireturn, 1) := fo_172 (fw_get da_cX4_loss_0 7 rfl)
theorem dX4_loss_14 : decode cX4_loss 14 = .ok (.aload_n 0, 1) := fo_42 (fw_get da_cX4_loss_0 8 rfl)
theorem dX4_loss_15 : decode cX4_loss 15 = .ok (.invokevirtual 71, 3) := fo_182 (fw_get da_cX4_loss_0 9 rfl)
theorem dX4_loss_18 : decode cX4_loss 18 = .ok (.astore_n 3, 1) := fo_78 (fw_get da_cX4_loss_0 10 rfl)
theorem dX4_loss_19 : decode cX4_loss 19 = .ok (.aload_n 3, 1) := fo_45 (fw_get da_cX4_loss_0 11 rfl)
theorem dX4_loss_20 : decode cX4_loss 20 = .ok (.iload_n 1, 1) := fo_27 (fw_get da_cX4_loss_0 12 rfl)
theorem dX4_loss_21 : decode cX4_loss 21 = .ok (.iload_n 2, 1) := fo_28 (fw_get da_cX4_loss_0 13 rfl)
theorem dX4_loss_22 : decode cX4_loss 22 = .ok (.invokevirtual 123, 3) := fo_182 (fw_get da_cX4_loss_0 14 rfl)
theorem dX4_loss_25 : decode cX4_loss 25 = .ok (.istore 4, 2) := fo_54 (fw_get da_cX4_loss_0 15 rfl)
theorem dX4_loss_27 : decode cX4_loss 27 = .ok (.iload 4, 2) := fo_21 (fw_get da_cX4_loss_0 16 rfl)
theorem dX4_loss_29 : decode cX4_loss 29 = .ok (.iconst (-1), 1) := fo_2 (fw_get da_cX4_loss_0 17 rfl)
theorem dX4_loss_30 : decode cX4_loss 30 = .ok (.if_icmp .ne 8, 3) := fo_160 (fw_get da_cX4_loss_0 18 rfl) (by decide +kernel)
theorem dX4_loss_33 : decode cX4_loss 33 = .ok (.bipush (-2), 2) := fo_16 (fw_get da_cX4_loss_0 19 rfl) (by decide +kernel)
def dt_cX4_loss_1 : List (Nat × Nat × Nat × Nat) := [(35, 167, 2, 10), (38, 45, 0, 0), (39, 180, 2, 139), (42, 21, 1, 4), (44, 46, 0, 0), (45, 172, 0, 0)]
theorem da_cX4_loss_1 : fw dt_cX4_loss_1 0 cX4_loss.data.toList = true := by decide +kernel
theorem dX4_loss_35 : decode cX4_loss 35 = .ok (.goto 10, 3) := fo_167 (fw_get da_cX4_loss_1 0 rfl) (by decide +kernel)
theorem dX4_loss_38 : decode cX4_loss 38 = .ok (.aload_n 3, 1) := fo_45 (fw_get da_cX4_loss_1 1 rfl)
theorem dX4_loss_39 : decode cX4_loss 39 = .ok (.getfield 139, 3) := fo_180 (fw_get da_cX4_loss_1 2 rfl)
theorem dX4_loss_42 : decode cX4_loss 42 = .ok (.iload 4, 2) := fo_21 (fw_get da_cX4_loss_1 3 rfl)
theorem dX4_loss_44 : decode cX4_loss 44 = .ok (.iaload, 1) := fo_46 (fw_get da_cX4_loss_1 4 rfl)
theorem dX4_loss_45 : decode cX4_loss 45 = .ok (.ireturn, 1) := fo_172 (fw_get da_cX4_loss_1 5 rfl)
theorem mi_wsX4_cancelled_wsX4_cancelled_r1 : ∀ w ∈ wsX4_cancelled_r1, w ∈ wsX4_cancelled := fun _ h => (List.mem_cons_of_mem _ (List.mem_append_left _ (List.mem_append_left _ (List.mem_append_left _ (List.mem_append_left _ (List.mem_append_left _ h))))))
theorem mi_wsX4_cancelled_wsX00 : ∀ w ∈ wsX00, w ∈ wsX4_cancelled := fun _ h => (List.mem_cons_of_mem _ (List.mem_append_left _ (List.mem_append_right _ h)))
set_option maxRecDepth 20000 in
theorem ggX4_cancelled_X0_hasRange : GoodIn wsX4_cancelled wsX0_hasRange := goodIn_m _ [(wsX4_cancelled_r1, [false, false, false, false, false, false, true, true]), (wsX00, [true, true])] (gm_c mi_wsX4_cancelled_wsX4_cancelled_r1 (gm_c mi_wsX4_cancelled_wsX00 gm_n)) rfl (by decide +kernel)
set_option maxRecDepth 20000 in
theorem gX4_cancelled_X0_hasRange : GoodIn wsX4_cancelled (wsV RX4 79 RX0 yX0_hasRange wsX0_hasRange) := goodIn_app (goodIn_m _ [(wsX4_cancelled_r1, [false, false, true, true, true, true])] (gm_c mi_wsX4_cancelled_wsX4_cancelled_r1 gm_n) rfl (by decide +kernel)) ggX4_cancelled_X0_hasRange
theorem mi_wsX4_cancelled_wsX4_cancelled_r2 : ∀ w ∈ wsX4_cancelled_r2, w ∈ wsX4_cancelled := fun _ h => (List.mem_cons_of_mem _ (List.mem_append_left _ (List.mem_append_left _ (List.mem_append_left _ (List.mem_append_left _ (List.mem_append_right _ (List.mem_append_left _ h)))))))
theorem mi_wsX4_cancelled_wsX4_cancelled_r3 : ∀ w ∈ wsX4_cancelled_r3, w ∈ wsX4_cancelled := fun _ h => (List.mem_cons_of_mem _ (List.mem_append_left _ (List.mem_append_left _ (List.mem_append_left _ (List.mem_append_left _ (List.mem_append_right _ (List.mem_append_right _ (List.mem_append_left _ h))))))))
theorem mi_wsX4_cancelled_wsX4_cancelled_r4 : ∀ w ∈ wsX4_cancelled_r4, w ∈ wsX4_cancelled := fun _ h => (List.mem_cons_of_mem _ (List.mem_append_left _ (List.mem_append_left _ (List.mem_append_left _ (List.mem_append_left _ (List.mem_append_right _ (List.mem_append_right _ (List.mem_append_right _ (List.mem_append_left _ h)))))))))
theorem mi_wsX4_cancelled_wsX4_cancelled_r5 : ∀ w ∈ wsX4_cancelled_r5, w ∈ wsX4_cancelled := fun _ h => (List.mem_cons_of_mem _ (List.mem_append_left _ (List.mem_append_left _ (List.mem_append_left _ (List.mem_append_left _ (List.mem_append_right _ (List.mem_append_right _ (List.mem_append_right _ (List.mem_append_right _ h)))))))))
theorem mi_wsX4_cancelled_wsX40 : ∀ w ∈ wsX40, w ∈ wsX4_cancelled := fun _ h => (List.mem_cons_of_mem _ (List.mem_append_left _ (List.mem_append_left _ (List.mem_append_left _ (List.mem_append_right _ h)))))
theorem mi_wsX4_cancelled_wsX20 : ∀ w ∈ wsX20, w ∈ wsX4_cancelled := fun _ h => (List.mem_cons_of_mem _ (List.mem_append_left _ (List.mem_append_left _ (List.mem_append_right _ h))))
theorem mi_wsX4_cancelled_wsX30 : ∀ w ∈ wsX30, w ∈ wsX4_cancelled := fun _ h => (List.mem_cons_of_mem _ (List.mem_append_right _ h))
set_option maxRecDepth 20000 in
theorem ggX4_cancelled_X4_laidTree : GoodIn wsX4_cancelled wsX4_laidTree := goodIn_m _ [(wsX4_cancelled_r1, [false, false, false, false, false, false, false, false, false, false, false, false, true, true, true, true, true]), (wsX4_cancelled_r1, [true, false, false, false, false, false, false, false, false, false, false, false, false, false, false, false, false, true, true, true, true, true, true, true]), (wsX4_cancelled_r2, [true, true, true, true, true, true, true, true, true, true, true, true, true, true, true, true, true, true, true, true, true, true, true, true]), (wsX4_cancelled_r3, [true, true, true, true, true, true, true, true, true, true, true, true, true, true, true, true, true, true, true, true, true, true, true, true]), (wsX4_cancelled_r4, [true, true, true, true, true, true, true, true, true, true, true, true, true, true, true, true, true, true, true, true, true, true, true, true]), (wsX4_cancelled_r5, [true, true, true, true, true, true, true]), (wsX40, [true, true, true, true, true, true, true, true, true]), (wsX20, [true, true, true, true, true, true, true, true, true, true, true]), (wsX00, [true, true]), (wsX30, [true, true, true, true, true])] (gm_c mi_wsX4_cancelled_wsX4_cancelled_r1 (gm_c mi_wsX4_cancelled_wsX4_cancelled_r1 (gm_c mi_wsX4_cancelled_wsX4_cancelled_r2 (gm_c mi_wsX4_cancelled_wsX4_cancelled_r3 (gm_c mi_wsX4_cancelled_wsX4_cancelled_r4 (gm_c mi_wsX4_cancelled_wsX4_cancelled_r5 (gm_c mi_wsX4_cancelled_wsX40 (gm_c mi_wsX4_cancelled_wsX20 (gm_c mi_wsX4_cancelled_wsX00 (gm_c mi_wsX4_cancelled_wsX30 gm_n)))))))))) rfl (by decide +kernel)
set_option maxRecDepth 20000 in
theorem gX4_cancelled_X4_laidTree : GoodIn wsX4_cancelled (wsV RX4 71 RX4 yX4_laidTree wsX4_laidTree) := goodIn_app (goodIn_m _ [(wsX4_cancelled_r1, [false, false, false, false, false, false, false, false, true, true, true, true])] (gm_c mi_wsX4_cancelled_wsX4_cancelled_r1 gm_n) rfl (by decide +kernel)) ggX4_cancelled_X4_laidTree
set_option maxRecDepth 20000 in
theorem ggX4_cancelled_X2_find : GoodIn wsX4_cancelled wsX2_find := goodIn_m _ [(wsX4_cancelled_r5, [false, false, false, false, false, false, false, false, false, false, true]), (wsX4_cancelled_r2, [false, true, true, true]), (wsX20, [true, true, true, true, true, true, true, true, true, true, true])] (gm_c mi_wsX4_cancelled_wsX4_cancelled_r5 (gm_c mi_wsX4_cancelled_wsX4_cancelled_r2 (gm_c mi_wsX4_cancelled_wsX20 gm_n))) rfl (by decide +kernel)
set_option maxRecDepth 20000 in
theorem gX4_cancelled_X2_find : GoodIn wsX4_cancelled (wsV RX4 123 RX2 yX2_find wsX2_find) := goodIn_app (goodIn_m _ [(wsX4_cancelled_r5, [false, false, false, false, false, false, false, true, true, true]), (wsX4_cancelled_r1, [false, false, false, false, false, false, false, false, false, false, false, false, false, false, false, false, false, false, false, false, false, true])] (gm_c mi_wsX4_cancelled_wsX4_cancelled_r5 (gm_c mi_wsX4_cancelled_wsX4_cancelled_r1 gm_n)) rfl (by decide +kernel)) ggX4_cancelled_X2_find
def dt_cX4_cancelled_0 : List (Nat × Nat × Nat × Nat) := [(0, 42, 0, 0), (1, 180, 2, 12), (4, 27, 0, 0), (5, 28, 0, 0), (6, 182, 2, 79), (9, 154, 2, 5), (12, 2, 0, 0), (13, 172, 0, 0), (14, 42, 0, 0), (15, 182, 2, 71), (18, 78, 0, 0), (19, 45, 0, 0), (20, 27, 0, 0), (21, 28, 0, 0), (22, 182, 2, 123), (25, 54, 1, 4), (27, 21, 1, 4), (29, 2, 0, 0), (30, 160, 2, 8), (33, 16, 1, 254)]
theorem da_cX4_cancelled_0 : fw dt_cX4_cancelled_0 0 cX4_cancelled.data.toList = true := by decide +kernel
theorem dX4_cancelled_0 : decode cX4_cancelled 0 = .ok (.aload_n 0, 1) := fo_42 (fw_get da_cX4_cancelled_0 0 rfl)
theorem dX4_cancelled_1 : decode cX4_cancelled 1 = .ok (.getfield 12, 3) := fo_180 (fw_get da_cX4_cancelled_0 1 rfl)
theorem dX4_cancelled_4 : decode cX4_cancelled 4 = .ok (.iload_n 1, 1) := fo_27 (fw_get da_cX4_cancelled_0 2 rfl)
theorem dX4_cancelled_5 : decode cX4_cancelled 5 = .ok (.iload_n 2, 1) := fo_28 (fw_get da_cX4_cancelled_0 3 rfl)
theorem dX4_cancelled_6 : decode cX4_cancelled 6 = .ok (.invokevirtual 79, 3) := fo_182 (fw_get da_cX4_cancelled_0 4 rfl)
theorem dX4_cancelled_9 : decode cX4_cancelled 9 = .ok (.ifCond .ne 5, 3) := fo_154 (fw_get da_cX4_cancelled_0 5 rfl) (by decide +kernel)
theorem dX4_cancelled_12 : decode cX4_cancelled 12 = .ok (.iconst (-1), 1) := fo_2 (fw_get da_cX4_cancelled_0 6 rfl)
theorem dX4_cancelled_13 : decode cX4_cancelled 13 = .ok (.ireturn, 1) := fo_172 (fw_get da_cX4_cancelled_0 7 rfl)
theorem dX4_cancelled_14 : decode cX4_cancelled 14 = .ok (.aload_n 0, 1) := fo_42 (fw_get da_cX4_cancelled_0 8 rfl)
theorem dX4_cancelled_15 : decode cX4_cancelled 15 = .ok (.invokevirtual 71, 3) := fo_182 (fw_get da_cX4_cancelled_0 9 rfl)
theorem dX4_cancelled_18 : decode cX4_cancelled 18 = .ok (.astore_n 3, 1) := fo_78 (fw_get da_cX4_cancelled_0 10 rfl)
theorem dX4_cancelled_19 : decode cX4_cancelled 19 = .ok (.aload_n 3, 1) := fo_45 (fw_get da_cX4_cancelled_0 11 rfl)
theorem dX4_cancelled_20 : decode cX4_cancelled 20 = .ok (.iload_n 1, 1) := fo_27 (fw_get da_cX4_cancelled_0 12 rfl)
theorem dX4_cancelled_21 : decode cX4_cancelled 21 = .ok (.iload_n 2, 1) := fo_28 (fw_get da_cX4_cancelled_0 13 rfl)
theorem dX4_cancelled_22 : decode cX4_cancelled 22 = .ok (.invokevirtual 123, 3) := fo_182 (fw_get da_cX4_cancelled_0 14 rfl)
theorem dX4_cancelled_25 : decode cX4_cancelled 25 = .ok (.istore 4, 2) := fo_54 (fw_get da_cX4_cancelled_0 15 rfl)
theorem dX4_cancelled_27 : decode cX4_cancelled 27 = .ok (.iload 4, 2) := fo_21 (fw_get da_cX4_cancelled_0 16 rfl)
theorem dX4_cancelled_29 : decode cX4_cancelled 29 = .ok (.iconst (-1), 1) := fo_2 (fw_get da_cX4_cancelled_0 17 rfl)
theorem dX4_cancelled_30 : decode cX4_cancelled 30 = .ok (.if_icmp .ne 8, 3) := fo_160 (fw_get da_cX4_cancelled_0 18 rfl) (by decide +kernel)
theorem dX4_cancelled_33 : decode cX4_cancelled 33 = .ok (.bipush (-2), 2) := fo_16 (fw_get da_cX4_cancelled_0 19 rfl) (by decide +kernel)
def dt_cX4_cancelled_1 : List (Nat × Nat × Nat × Nat) := [(35, 167, 2, 10), (38, 45, 0, 0), (39, 180, 2, 142), (42, 21, 1, 4), (44, 46, 0, 0), (45, 172, 0, 0)]
theorem da_cX4_cancelled_1 : fw dt_cX4_cancelled_1 0 cX4_cancelled.data.toList = true := by decide +kernel
theorem dX4_cancelled_35 : decode cX4_cancelled 35 = .ok (.goto 10, 3) := fo_167 (fw_get da_cX4_cancelled_1 0 rfl) (by decide +kernel)
theorem dX4_cancelled_38 : decode cX4_cancelled 38 = .ok (.aload_n 3, 1) := fo_45 (fw_get da_cX4_cancelled_1 1 rfl)
theorem dX4_cancelled_39 : decode cX4_cancelled 39 = .ok (.getfield 142, 3) := fo_180 (fw_get da_cX4_cancelled_1 2 rfl)
theorem dX4_cancelled_42 : decode cX4_cancelled 42 = .ok (.iload 4, 2) := fo_21 (fw_get da_cX4_cancelled_1 3 rfl)
theorem dX4_cancelled_44 : decode cX4_cancelled 44 = .ok (.iaload, 1) := fo_46 (fw_get da_cX4_cancelled_1 4 rfl)
theorem dX4_cancelled_45 : decode cX4_cancelled 45 = .ok (.ireturn, 1) := fo_172 (fw_get da_cX4_cancelled_1 5 rfl)
theorem mi_wsX4_above_wsX4_above_r1 : ∀ w ∈ wsX4_above_r1, w ∈ wsX4_above := fun _ h => (List.mem_cons_of_mem _ (List.mem_append_left _ (List.mem_append_left _ (List.mem_append_left _ (List.mem_append_left _ (List.mem_append_left _ h))))))
theorem mi_wsX4_above_wsX00 : ∀ w ∈ wsX00, w ∈ wsX4_above := fun _ h => (List.mem_cons_of_mem _ (List.mem_append_left _ (List.mem_append_right _ h)))
set_option maxRecDepth 20000 in
theorem ggX4_above_X0_hasPlace : GoodIn wsX4_above wsX0_hasPlace := goodIn_m _ [(wsX4_above_r1, [false, false, false, false, false, false, false, false, true, true]), (wsX00, [true, true])] (gm_c mi_wsX4_above_wsX4_above_r1 (gm_c mi_wsX4_above_wsX00 gm_n)) rfl (by decide +kernel)
set_option maxRecDepth 20000 in
theorem gX4_above_X0_hasPlace : GoodIn wsX4_above (wsV RX4 64 RX0 yX0_hasPlace wsX0_hasPlace) := goodIn_app (goodIn_m _ [(wsX4_above_r1, [false, false, false, false, true, true, true, true])] (gm_c mi_wsX4_above_wsX4_above_r1 gm_n) rfl (by decide +kernel)) ggX4_above_X0_hasPlace
theorem mi_wsX4_above_wsX4_above_r2 : ∀ w ∈ wsX4_above_r2, w ∈ wsX4_above := fun _ h => (List.mem_cons_of_mem _ (List.mem_append_left _ (List.mem_append_left _ (List.mem_append_left _ (List.mem_append_left _ (List.mem_append_right _ (List.mem_append_left _ h)))))))
theorem mi_wsX4_above_wsX4_above_r3 : ∀ w ∈ wsX4_above_r3, w ∈ wsX4_above := fun _ h => (List.mem_cons_of_mem _ (List.mem_append_left _ (List.mem_append_left _ (List.mem_append_left _ (List.mem_append_left _ (List.mem_append_right _ (List.mem_append_right _ (List.mem_append_left _ h))))))))
theorem mi_wsX4_above_wsX4_above_r4 : ∀ w ∈ wsX4_above_r4, w ∈ wsX4_above := fun _ h => (List.mem_cons_of_mem _ (List.mem_append_left _ (List.mem_append_left _ (List.mem_append_left _ (List.mem_append_left _ (List.mem_append_right _ (List.mem_append_right _ (List.mem_append_right _ (List.mem_append_left _ h)))))))))
theorem mi_wsX4_above_wsX4_above_r5 : ∀ w ∈ wsX4_above_r5, w ∈ wsX4_above := fun _ h => (List.mem_cons_of_mem _ (List.mem_append_left _ (List.mem_append_left _ (List.mem_append_left _ (List.mem_append_left _ (List.mem_append_right _ (List.mem_append_right _ (List.mem_append_right _ (List.mem_append_right _ (List.mem_append_left _ h))))))))))
theorem mi_wsX4_above_wsX40 : ∀ w ∈ wsX40, w ∈ wsX4_above := fun _ h => (List.mem_cons_of_mem _ (List.mem_append_left _ (List.mem_append_left _ (List.mem_append_left _ (List.mem_append_right _ h)))))
theorem mi_wsX4_above_wsX20 : ∀ w ∈ wsX20, w ∈ wsX4_above := fun _ h => (List.mem_cons_of_mem _ (List.mem_append_left _ (List.mem_append_left _ (List.mem_append_right _ h))))
theorem mi_wsX4_above_wsX30 : ∀ w ∈ wsX30, w ∈ wsX4_above := fun _ h => (List.mem_cons_of_mem _ (List.mem_append_right _ h))
set_option maxRecDepth 20000 in
theorem ggX4_above_X4_laidTree : GoodIn wsX4_above wsX4_laidTree := goodIn_m _ [(wsX4_above_r1, [false, false, false, false, false, false, false, false, false, false, false, false, false, false, true, true, true, true, true]), (wsX4_above_r1, [true, false, false, false, false, false, false, false, false, false, false, false, false, false, false, false, false, false, false, true, true, true, true, true]), (wsX4_above_r2, [true, true, true, true, true, true, true, true, true, true, true, true, true, true, true, true, true, true, true, true, true, true, true, true]), (wsX4_above_r3, [true, true, true, true, true, true, true, true, true, true, true, true, true, true, true, true, true, true, true, true, true, true, true, true]), (wsX4_above_r4, [true, true, true, true, true, true, true, true, true, true, true, true, true, true, true, true, true, true, true, true, true, true, true, true]), (wsX4_above_r5, [true, true, true, true, true, true, true, true, true]), (wsX40, [true, true, true, true, true, true, true, true, true]), (wsX20, [true, true, true, true, true, true, true, true, true, true, true]), (wsX00, [true, true]), (wsX30, [true, true, true, true, true])] (gm_c mi_wsX4_above_wsX4_above_r1 (gm_c mi_wsX4_above_wsX4_above_r1 (gm_c mi_wsX4_above_wsX4_above_r2 (gm_c mi_wsX4_above_wsX4_above_r3 (gm_c mi_wsX4_above_wsX4_above_r4 (gm_c mi_wsX4_above_wsX4_above_r5 (gm_c mi_wsX4_above_wsX40 (gm_c mi_wsX4_above_wsX20 (gm_c mi_wsX4_above_wsX00 (gm_c mi_wsX4_above_wsX30 gm_n)))))))))) rfl (by decide +kernel)
set_option maxRecDepth 20000 in
theorem gX4_above_X4_laidTree : GoodIn wsX4_above (wsV RX4 71 RX4 yX4_laidTree wsX4_laidTree) := goodIn_app (goodIn_m _ [(wsX4_above_r1, [false, false, false, false, false, false, false, false, false, false, true, true, true, true])] (gm_c mi_wsX4_above_wsX4_above_r1 gm_n) rfl (by decide +kernel)) ggX4_above_X4_laidTree
set_option maxRecDepth 20000 in
theorem ggX4_above_X2_depthAt : GoodIn wsX4_above wsX2_depthAt := goodIn_m _ [(wsX4_above_r5, [false, false, false, false, false, false, false, false, false, false, false, false, true]), (wsX4_above_r2, [false, false, false, true]), (wsX4_above_r5, [false, false, false, false, false, false, false, false, false, false, false, false, false, true, true, true]), (wsX4_above_r1, [false, false, false, false, false, false, false, false, false, false, false, false, false, false, false, false, false, false, false, false, false, false, false, true]), (wsX4_above_r5, [false, false, false, false, false, false, false, false, false, false, false, false, false, false, false, false, true]), (wsX4_above_r2, [false, false, false, false, true, true]), (wsX20, [true, true, true, true, true, true, true, true, true, true, true])] (gm_c mi_wsX4_above_wsX4_above_r5 (gm_c mi_wsX4_above_wsX4_above_r2 (gm_c mi_wsX4_above_wsX4_above_r5 (gm_c mi_wsX4_above_wsX4_above_r1 (gm_c mi_wsX4_above_wsX4_above_r5 (gm_c mi_wsX4_above_wsX4_above_r2 (gm_c mi_wsX4_above_wsX20 gm_n))))))) rfl (by decide +kernel)
set_option maxRecDepth 20000 in
theorem gX4_above_X2_depthAt : GoodIn wsX4_above (wsV RX4 145 RX2 yX2_depthAt wsX2_depthAt) := goodIn_app (goodIn_m _ [(wsX4_above_r5, [false, false, false, false, false, false, false, false, false, true, true, true]), (wsX4_above_r1, [false, false, false, false, false, false, false, false, false, false, false, false, false, false, false, false, false, false, false, false, false, false, false, true])] (gm_c mi_wsX4_above_wsX4_above_r5 (gm_c mi_wsX4_above_wsX4_above_r1 gm_n)) rfl (by decide +kernel)) ggX4_above_X2_depthAt
set_option maxRecDepth 20000 in
theorem ggX4_above_X2_onPath : GoodIn wsX4_above wsX2_onPath := goodIn_m _ [(wsX4_above_r5, [false, false, false, false, false, false, false, false, false, false, false, false, false, false, false, false, false, false, false, false, true]), (wsX4_above_r2, [false, false, false, true]), (wsX4_above_r5, [false, false, false, false, false, false, false, false, false, false, false, false, false, true, true, true]), (wsX4_above_r1, [false, false, false, false, false, false, false, false, false, false, false, false, false, false, false, false, false, false, false, false, false, false, false, true]), (wsX4_above_r5, [false, false, false, false, false, false, false, false, false, false, false, false, false, false, false, false, true]), (wsX4_above_r2, [false, false, false, false, true, true]), (wsX20, [true, true, true, true, true, true, true, true, true, true, true])] (gm_c mi_wsX4_above_wsX4_above_r5 (gm_c mi_wsX4_above_wsX4_above_r2 (gm_c mi_wsX4_above_wsX4_above_r5 (gm_c mi_wsX4_above_wsX4_above_r1 (gm_c mi_wsX4_above_wsX4_above_r5 (gm_c mi_wsX4_above_wsX4_above_r2 (gm_c mi_wsX4_above_wsX20 gm_n))))))) rfl (by decide +kernel)
set_option maxRecDepth 20000 in
theorem gX4_above_X2_onPath : GoodIn wsX4_above (wsV RX4 148 RX2 yX2_onPath wsX2_onPath) := goodIn_app (goodIn_m _ [(wsX4_above_r5, [false, false, false, false, false, false, false, false, false, false, false, false, false, false, false, false, false, true, true, true]), (wsX4_above_r1, [false, false, false, false, false, false, false, false, false, false, false, false, false, false, false, false, false, false, false, false, false, false, false, true])] (gm_c mi_wsX4_above_wsX4_above_r5 (gm_c mi_wsX4_above_wsX4_above_r1 gm_n)) rfl (by decide +kernel)) ggX4_above_X2_onPath
theorem mi_wsX4_above_wsX4_above_r6 : ∀ w ∈ wsX4_above_r6, w ∈ wsX4_above := fun _ h => (List.mem_cons_of_mem _ (List.mem_append_left _ (List.mem_append_left _ (List.mem_append_left _ (List.mem_append_left _ (List.mem_append_right _ (List.mem_append_right _ (List.mem_append_right _ (List.mem_append_right _ (List.mem_append_right _ h))))))))))
set_option maxRecDepth 20000 in
theorem ggX4_above_X2_numberIn : GoodIn wsX4_above wsX2_numberIn := goodIn_m _ [(wsX4_above_r6, [true]), (wsX4_above_r3, [false, false, false, false, false, false, false, false, false, false, false, false, false, false, false, false, false, false, false, true, true, true]), (wsX20, [true, true, true, true, true, true, true, true, true, true, true])] (gm_c mi_wsX4_above_wsX4_above_r6 (gm_c mi_wsX4_above_wsX4_above_r3 (gm_c mi_wsX4_above_wsX20 gm_n))) rfl (by decide +kernel)
set_option maxRecDepth 20000 in
theorem gX4_above_X2_numberIn : GoodIn wsX4_above (wsV RX4 157 RX2 yX2_numberIn wsX2_numberIn) := goodIn_app (goodIn_m _ [(wsX4_above_r5, [false, false, false, false, false, false, false, false, false, false, false, false, false, false, false, false, false, false, false, false, false, true, true, true]), (wsX4_above_r1, [false, false, false, false, false, false, false, false, false, false, false, false, false, false, false, false, false, false, false, false, false, false, false, true])] (gm_c mi_wsX4_above_wsX4_above_r5 (gm_c mi_wsX4_above_wsX4_above_r1 gm_n)) rfl (by decide +kernel)) ggX4_above_X2_numberIn
def dt_cX4_above_0 : List (Nat × Nat × Nat × Nat) := [(0, 42, 0, 0), (1, 180, 2, 12), (4, 27, 0, 0), (5, 182, 2, 64), (8, 154, 2, 5), (11, 2, 0, 0), (12, 172, 0, 0), (13, 42, 0, 0), (14, 182, 2, 71), (17, 58, 1, 4), (19, 28, 0, 0), (20, 2, 0, 0), (21, 160, 2, 10), (24, 25, 1, 4), (26, 27, 0, 0), (27, 182, 2, 145), (30, 172, 0, 0), (31, 25, 1, 4), (33, 27, 0, 0), (34, 28, 0, 0)]
theorem da_cX4_above_0 : fw dt_cX4_above_0 0 cX4_above.data.toList = true := by decide +kernel
theorem dX4_above_0 : decode cX4_above 0 = .ok (.aload_n 0, 1) := fo_42 (fw_get da_cX4_above_0 0 rfl)
theorem dX4_above_1 : decode cX4_above 1 = .ok (.getfield 12, 3) := fo_180 (fw_get da_cX4_above_0 1 rfl)
theorem dX4_above_4 : decode cX4_above 4 = .ok (.iload_n 1, 1) := fo_27 (fw_get da_cX4_above_0 2 rfl)
theorem dX4_above_5 : decode cX4_above 5 = .ok (.invokevirtual 64, 3) := fo_182 (fw_get da_cX4_above_0 3 rfl)
theorem dX4_above_8 : decode cX4_above 8 = .ok (.ifCond .ne 5, 3) := fo_154 (fw_get da_cX4_above_0 4 rfl) (by decide +kernel)
theorem dX4_above_11 : decode cX4_above 11 = .ok (.iconst (-1), 1) := fo_2 (fw_get da_cX4_above_0 5 rfl)
theorem dX4_above_12 : decode cX4_above 12 = .ok (.ireturn, 1) := fo_172 (fw_get da_cX4_above_0 6 rfl)
theorem dX4_above_13 : decode cX4_above 13 = .ok (.aload_n 0, 1) := fo_42 (fw_get da_cX4_above_0 7 rfl)
theorem dX4_above_14 : decode cX4_above 14 = .ok (.invokevirtual 71, 3) := fo_182 (fw_get da_cX4_above_0 8 rfl)
theorem dX4_above_17 : decode cX4_above 17 = .ok (.astore 4, 2) := fo_58 (fw_get da_cX4_above_0 9 rfl)
theorem dX4_above_19 : decode cX4_above 19 = .ok (.iload_n 2, 1) := fo_28 (fw_get da_cX4_above_0 10 rfl)
theorem dX4_above_20 : decode cX4_above 20 = .ok (.iconst (-1), 1) := fo_2 (fw_get da_cX4_above_0 11 rfl)
theorem dX4_above_21 : decode cX4_above 21 = .ok (.if_icmp .ne 10, 3) := fo_160 (fw_get da_cX4_above_0 12 rfl) (by decide +kernel)
theorem dX4_above_24 : decode cX4_above 24 = .ok (.aload 4, 2) := fo_25 (fw_get da_cX4_above_0 13 rfl)
theorem dX4_above_26 : decode cX4_above 26 = .ok (.iload_n 1, 1) := fo_27 (fw_get da_cX4_above_0 14 rfl)
theorem dX4_above_27 : decode cX4_above 27 = .ok (.invokevirtual 145, 3) := fo_182 (fw_get da_cX4_above_0 15 rfl)
theorem dX4_above_30 : decode cX4_above 30 = .ok (.ireturn, 1) := fo_172 (fw_get da_cX4_above_0 16 rfl)
theorem dX4_above_31 : decode cX4_above 31 = .ok (.aload 4, 2) := fo_25 (fw_get da_cX4_above_0 17 rfl)
theorem dX4_above_33 : decode cX4_above 33 = .ok (.iload_n 1, 1) := fo_27 (fw_get da_cX4_above_0 18 rfl)
theorem dX4_above_34 : decode cX4_above 34 = .ok (.iload_n 2, 1) := fo_28 (fw_get da_cX4_above_0 19 rfl)
def dt_cX4_above_1 : List (Nat × Nat × Nat × Nat) := [(35, 182, 2, 148), (38, 54, 1, 5), (40, 21, 1, 5), (42, 2, 0, 0), (43, 160, 2, 5), (46, 2, 0, 0), (47, 172, 0, 0), (48, 29, 0, 0)]
theorem da_cX4_above_1 : fw dt_cX4_above_1 0 cX4_above.data.toList = true := by decide +kernel
theorem dX4_above_35 : decode cX4_above 35 = .ok (.invokevirtual 148, 3) := fo_182 (fw_get da_cX4_above_1 0 rfl)
theorem dX4_above_38 : decode cX4_above 38 = .ok (.istore 5, 2) := fo_54 (fw_get da_cX4_above_1 1 rfl)
theorem dX4_above_40 : decode cX4_above 40 = .ok (.iload 5, 2) := fo_21 (fw_get da_cX4_above_1 2 rfl)
theorem dX4_above_42 : decode cX4_above 42 = .ok (.iconst (-1), 1) := fo_2 (fw_get da_cX4_above_1 3 rfl)
theorem dX4_above_43 : decode cX4_above 43 = .ok (.if_icmp .ne 5, 3) := fo_160 (fw_get da_cX4_above_1 4 rfl) (by decide +kernel)
theorem dX4_above_46 : decode cX4_above 46 = .ok (.iconst (-1), 1) := fo_2 (fw_get da_cX4_above_1 5 rfl)
theorem dX4_above_47 : decode cX4_above 47 = .ok (.ireturn, 1) := fo_172 (fw_get da_cX4_above_1 6 rfl)
theorem dX4_above_48 : decode cX4_above 48 = .ok (.iload_n 3, 1) := fo_29 (fw_get da_cX4_above_1 7 rfl)
theorem dX4_above_49 : decode cX4_above 49 = .ok (.tableswitch 62 0 2 #[27, 36, 45], 27) := by decide +kernel
def dt_cX4_above_2 : List (Nat × Nat × Nat × Nat) := [(76, 25, 1, 4), (78, 180, 2, 151), (81, 21, 1, 5), (83, 46, 0, 0), (84, 172, 0, 0), (85, 25, 1, 4), (87, 180, 2, 154), (90, 21, 1, 5), (92, 46, 0, 0), (93, 172, 0, 0), (94, 25, 1, 4), (96, 21, 1, 5), (98, 42, 0, 0), (99, 180, 2, 12), (102, 180, 2, 110), (105, 27, 0, 0), (106, 46, 0, 0), (107, 182, 2, 157), (110, 172, 0, 0), (111, 2, 0, 0)]
theorem da_cX4_above_2 : fw dt_cX4_above_2 0 cX4_above.data.toList = true := by decide +kernel
theorem dX4_above_76 : decode cX4_above 76 = .ok (.aload 4, 2) := fo_25 (fw_get da_cX4_above_2 0 rfl)
theorem dX4_above_78 : decode cX4_above 78 = .ok (.getfield 151, 3) := fo_180 (fw_get da_cX4_above_2 1 rfl)
theorem dX4_above_81 : decode cX4_above 81 = .ok (.iload 5, 2) := fo_21 (fw_get da_cX4_above_2 2 rfl)
theorem dX4_above_83 : decode cX4_above 83 = .ok (.iaload, 1) := fo_46 (fw_get da_cX4_above_2 3 rfl)
theorem dX4_above_84 : decode cX4_above 84 = .ok (.ireturn, 1) := fo_172 (fw_get da_cX4_above_2 4 rfl)
theorem dX4_above_85 : decode cX4_above 85 = .ok (.aload 4, 2) := fo_25 (fw_get da_cX4_above_2 5 rfl)
theorem dX4_above_87 : decode cX4_above 87 = .ok (.getfield 154, 3) := fo_180 (fw_get da_cX4_above_2 6 rfl)
theorem dX4_above_90 : decode cX4_above 90 = .ok (.iload 5, 2) := fo_21 (fw_get da_cX4_above_2 7 rfl)
theorem dX4_above_92 : decode cX4_above 92 = .ok (.iaload, 1) := fo_46 (fw_get da_cX4_above_2 8 rfl)
theorem dX4_above_93 : decode cX4_above 93 = .ok (.ireturn, 1) := fo_172 (fw_get da_cX4_above_2 9 rfl)
theorem dX4_above_94 : decode cX4_above 94 = .ok (.aload 4, 2) := fo_25 (fw_get da_cX4_above_2 10 rfl)
theorem dX4_above_96 : decode cX4_above 96 = .ok (.iload 5, 2) := fo_21 (fw_get da_cX4_above_2 11 rfl)
theorem dX4_above_98 : decode cX4_above 98 = .ok (.aload_n 0, 1) := fo_42 (fw_get da_cX4_above_2 12 rfl)
theorem dX4_above_99 : decode cX4_above 99 = .ok (.getfield 12, 3) := fo_180 (fw_get da_cX4_above_2 13 rfl)
theorem dX4_above_102 : decode cX4_above 102 = .ok (.getfield 110, 3) := fo_180 (fw_get da_cX4_above_2 14 rfl)
theorem dX4_above_105 : decode cX4_above 105 = .ok (.iload_n 1, 1) := fo_27 (fw_get da_cX4_above_2 15 rfl)
theorem dX4_above_106 : decode cX4_above 106 = .ok (.iaload, 1) := fo_46 (fw_get da_cX4_above_2 16 rfl)
theorem dX4_above_107 : decode cX4_above 107 = .ok (.invokevirtual 157, 3) := fo_182 (fw_get da_cX4_above_2 17 rfl)
theorem dX4_above_110 : decode cX4_above 110 = .ok (.ireturn, 1) := fo_172 (fw_get da_cX4_above_2 18 rfl)
theorem dX4_above_111 : decode cX4_above 111 = .ok (.iconst (-1), 1) := fo_2 (fw_get da_cX4_above_2 19 rfl)
def dt_cX4_above_3 : List (Nat × Nat × Nat × Nat) := [(112, 172, 0, 0)]
theorem da_cX4_above_3 : fw dt_cX4_above_3 0 cX4_above.data.toList = true := by decide +kernel
theorem dX4_above_112 : decode cX4_above 112 = .ok (.ireturn, 1) := fo_172 (fw_get da_cX4_above_3 0 rfl)
theorem mi_wsX4_holds_wsX4_holds_r1 : ∀ w ∈ wsX4_holds_r1, w ∈ wsX4_holds := fun _ h => (List.mem_cons_of_mem _ (List.mem_append_left _ (List.mem_append_left _ (List.mem_append_left _ (List.mem_append_left _ (List.mem_append_left _ h))))))
theorem mi_wsX4_holds_wsX00 : ∀ w ∈ wsX00, w ∈ wsX4_holds := fun _ h => (List.mem_cons_of_mem _ (List.mem_append_left _ (List.mem_append_left _ (List.mem_append_right _ h))))
set_option maxRecDepth 20000 in
theorem ggX4_holds_X0_hasPlace : GoodIn wsX4_holds wsX0_hasPlace := goodIn_m _ [(wsX4_holds_r1, [false, false, false, false, false, true, true]), (wsX00, [true, true])] (gm_c mi_wsX4_holds_wsX4_holds_r1 (gm_c mi_wsX4_holds_wsX00 gm_n)) rfl (by decide +kernel)
set_option maxRecDepth 20000 in
theorem gX4_holds_X0_hasPlace : GoodIn wsX4_holds (wsV RX4 64 RX0 yX0_hasPlace wsX0_hasPlace) := goodIn_app (goodIn_m _ [(wsX4_holds_r1, [false, true, true, true, true])] (gm_c mi_wsX4_holds_wsX4_holds_r1 gm_n) rfl (by decide +kernel)) ggX4_holds_X0_hasPlace
theorem mi_wsX4_holds_wsX4_holds_r2 : ∀ w ∈ wsX4_holds_r2, w ∈ wsX4_holds := fun _ h => (List.mem_cons_of_mem _ (List.mem_append_left _ (List.mem_append_left _ (List.mem_append_left _ (List.mem_append_left _ (List.mem_append_right _ (List.mem_append_left _ h)))))))
theorem mi_wsX4_holds_wsX4_holds_r3 : ∀ w ∈ wsX4_holds_r3, w ∈ wsX4_holds := fun _ h => (List.mem_cons_of_mem _ (List.mem_append_left _ (List.mem_append_left _ (List.mem_append_left _ (List.mem_append_left _ (List.mem_append_right _ (List.mem_append_right _ (List.mem_append_left _ h))))))))
theorem mi_wsX4_holds_wsX4_holds_r4 : ∀ w ∈ wsX4_holds_r4, w ∈ wsX4_holds := fun _ h => (List.mem_cons_of_mem _ (List.mem_append_left _ (List.mem_append_left _ (List.mem_append_left _ (List.mem_append_left _ (List.mem_append_right _ (List.mem_append_right _ (List.mem_append_right _ (List.mem_append_left _ h)))))))))
theorem mi_wsX4_holds_wsX4_holds_r5 : ∀ w ∈ wsX4_holds_r5, w ∈ wsX4_holds := fun _ h => (List.mem_cons_of_mem _ (List.mem_append_left _ (List.mem_append_left _ (List.mem_append_left _ (List.mem_append_left _ (List.mem_append_right _ (List.mem_append_right _ (List.mem_append_right _ (List.mem_append_right _ h)))))))))
theorem mi_wsX4_holds_wsX40 : ∀ w ∈ wsX40, w ∈ wsX4_holds := fun _ h => (List.mem_cons_of_mem _ (List.mem_append_left _ (List.mem_append_left _ (List.mem_append_left _ (List.mem_append_right _ h)))))
theorem mi_wsX4_holds_wsX20 : ∀ w ∈ wsX20, w ∈ wsX4_holds := fun _ h => (List.mem_cons_of_mem _ (List.mem_append_left _ (List.mem_append_right _ h)))
theorem mi_wsX4_holds_wsX30 : ∀ w ∈ wsX30, w ∈ wsX4_holds := fun _ h => (List.mem_cons_of_mem _ (List.mem_append_right _ h))
set_option maxRecDepth 20000 in
theorem ggX4_holds_X4_laidTree : GoodIn wsX4_holds wsX4_laidTree := goodIn_m _ [(wsX4_holds_r1, [false, false, false, false, false, false, false, false, false, false, false, true, true, true, true, true]), (wsX4_holds_r1, [true, false, false, false, false, false, false, false, false, false, false, false, false, false, false, false, true, true, true, true, true, true, true, true]), (wsX4_holds_r2, [true, true, true, true, true, true, true, true, true, true, true, true, true, true, true, true, true, true, true, true, true, true, true, true]), (wsX4_holds_r3, [true, true, true, true, true, true, true, true, true, true, true, true, true, true, true, true, true, true, true, true, true, true, true, true]), (wsX4_holds_r4, [true, true, true, true, true, true, true, true, true, true, true, true, true, true, true, true, true, true, true, true, true, true, true, true]), (wsX4_holds_r5, [true, true, true, true, true, true]), (wsX40, [true, true, true, true, true, true, true, true, true]), (wsX20, [true, true, true, true, true, true, true, true, true, true, true]), (wsX00, [true, true]), (wsX30, [true, true, true, true, true])] (gm_c mi_wsX4_holds_wsX4_holds_r1 (gm_c mi_wsX4_holds_wsX4_holds_r1 (gm_c mi_wsX4_holds_wsX4_holds_r2 (gm_c mi_wsX4_holds_wsX4_holds_r3 (gm_c mi_wsX4_holds_wsX4_holds_r4 (gm_c mi_wsX4_holds_wsX4_holds_r5 (gm_c mi_wsX4_holds_wsX40 (gm_c mi_wsX4_holds_wsX20 (gm_c mi_wsX4_holds_wsX00 (gm_c mi_wsX4_holds_wsX30 gm_n)))))))))) rfl (by decide +kernel)
set_option maxRecDepth 20000 in
theorem gX4_holds_X4_laidTree : GoodIn wsX4_holds (wsV RX4 71 RX4 yX4_laidTree wsX4_laidTree) := goodIn_app (goodIn_m _ [(wsX4_holds_r1, [false, false, false, false, false, false, false, true, true, true, true])] (gm_c mi_wsX4_holds_wsX4_holds_r1 gm_n) rfl (by decide +kernel)) ggX4_holds_X4_laidTree
set_option maxRecDepth 20000 in
theorem ggX4_holds_X2_holding : GoodIn wsX4_holds wsX2_holding := goodIn_m _ [(wsX4_holds_r5, [false, false, false, false, false, false, false, false, false, true]), (wsX4_holds_r2, [true]), (wsX4_holds_r1, [false, false, false, false, false, false, false, false, false, false, false, false, false, false, false, false, false, false, false, false, false, false, true]), (wsX4_holds_r2, [false, false, false, false, false, false, false, false, false, false, false, false, false, false, false, false, false, false, false, false, true]), (wsX4_holds_r5, [false, false, false, false, false, false, false, false, false, false, true, true, true]), (wsX4_holds_r1, [false, false, false, false, false, false, false, false, false, false, false, false, false, false, false, false, false, false, false, false, true]), (wsX4_holds_r5, [false, false, false, false, false, false, false, false, false, false, false, false, false, true]), (wsX4_holds_r2, [false, true, true]), (wsX4_holds_r5, [false, false, false, false, false, false, false, false, false, false, false, false, false, false, true, true, true, true]), (wsX4_holds_r3, [false, false, false, false, false, false, false, false, false, false, false, false, false, false, false, false, true, true, true]), (wsX20, [true, true, true, true, true, true, true, true, true, true, true]), (wsX00, [true, true])] (gm_c mi_wsX4_holds_wsX4_holds_r5 (gm_c mi_wsX4_holds_wsX4_holds_r2 (gm_c mi_wsX4_holds_wsX4_holds_r1 (gm_c mi_wsX4_holds_wsX4_holds_r2 (gm_c mi_wsX4_holds_wsX4_holds_r5 (gm_c mi_wsX4_holds_wsX4_holds_r1 (gm_c mi_wsX4_holds_wsX4_holds_r5 (gm_c mi_wsX4_holds_wsX4_holds_r2 (gm_c mi_wsX4_holds_wsX4_holds_r5 (gm_c mi_wsX4_holds_wsX4_holds_r3 (gm_c mi_wsX4_holds_wsX20 (gm_c mi_wsX4_holds_wsX00 gm_n)))))))))))) rfl (by decide +kernel)
set_option maxRecDepth 20000 in
theorem gX4_holds_X2_holding : GoodIn wsX4_holds (wsV RX4 160 RX2 yX2_holding wsX2_holding) := goodIn_app (goodIn_m _ [(wsX4_holds_r5, [false, false, false, false, false, false, true, true, true]), (wsX4_holds_r1, [false, false, false, false, false, false, false, false, false, false, false, false, false, false, false, false, false, false, false, false, true])] (gm_c mi_wsX4_holds_wsX4_holds_r5 (gm_c mi_wsX4_holds_wsX4_holds_r1 gm_n)) rfl (by decide +kernel)) ggX4_holds_X2_holding
def dt_cX4_holds_0 : List (Nat × Nat × Nat × Nat) := [(0, 42, 0, 0), (1, 180, 2, 12), (4, 27, 0, 0), (5, 182, 2, 64), (8, 154, 2, 5), (11, 2, 0, 0), (12, 172, 0, 0), (13, 42, 0, 0), (14, 182, 2, 71), (17, 27, 0, 0), (18, 182, 2, 160), (21, 172, 0, 0)]
theorem da_cX4_holds_0 : fw dt_cX4_holds_0 0 cX4_holds.data.toList = true := by decide +kernel
theorem dX4_holds_0 : decode cX4_holds 0 = .ok (.aload_n 0, 1) := fo_42 (fw_get da_cX4_holds_0 0 rfl)
theorem dX4_holds_1 : decode cX4_holds 1 = .ok (.getfield 12, 3) := fo_180 (fw_get da_cX4_holds_0 1 rfl)
theorem dX4_holds_4 : decode cX4_holds 4 = .ok (.iload_n 1, 1) := fo_27 (fw_get da_cX4_holds_0 2 rfl)
theorem dX4_holds_5 : decode cX4_holds 5 = .ok (.invokevirtual 64, 3) := fo_182 (fw_get da_cX4_holds_0 3 rfl)
theorem dX4_holds_8 : decode cX4_holds 8 = .ok (.ifCond .ne 5, 3) := fo_154 (fw_get da_cX4_holds_0 4 rfl) (by decide +kernel)
theorem dX4_holds_11 : decode cX4_holds 11 = .ok (.iconst (-1), 1) := fo_2 (fw_get da_cX4_holds_0 5 rfl)
theorem dX4_holds_12 : decode cX4_holds 12 = .ok (.ireturn, 1) := fo_172 (fw_get da_cX4_holds_0 6 rfl)
theorem dX4_holds_13 : decode cX4_holds 13 = .ok (.aload_n 0, 1) := fo_42 (fw_get da_cX4_holds_0 7 rfl)
theorem dX4_holds_14 : decode cX4_holds 14 = .ok (.invokevirtual 71, 3) := fo_182 (fw_get da_cX4_holds_0 8 rfl)
theorem dX4_holds_17 : decode cX4_holds 17 = .ok (.iload_n 1, 1) := fo_27 (fw_get da_cX4_holds_0 9 rfl)
theorem dX4_holds_18 : decode cX4_holds 18 = .ok (.invokevirtual 160, 3) := fo_182 (fw_get da_cX4_holds_0 10 rfl)
theorem dX4_holds_21 : decode cX4_holds 21 = .ok (.ireturn, 1) := fo_172 (fw_get da_cX4_holds_0 11 rfl)
theorem mi_wsX4_parts_wsX4_parts_r1 : ∀ w ∈ wsX4_parts_r1, w ∈ wsX4_parts := fun _ h => (List.mem_cons_of_mem _ (List.mem_append_left _ (List.mem_append_left _ (List.mem_append_left _ (List.mem_append_left _ (List.mem_append_left _ h))))))
theorem mi_wsX4_parts_wsX00 : ∀ w ∈ wsX00, w ∈ wsX4_parts := fun _ h => (List.mem_cons_of_mem _ (List.mem_append_left _ (List.mem_append_right _ h)))
set_option maxRecDepth 20000 in
theorem ggX4_parts_X0_hasRange : GoodIn wsX4_parts wsX0_hasRange := goodIn_m _ [(wsX4_parts_r1, [false, false, false, false, false, false, false, true, true]), (wsX00, [true, true])] (gm_c mi_wsX4_parts_wsX4_parts_r1 (gm_c mi_wsX4_parts_wsX00 gm_n)) rfl (by decide +kernel)
set_option maxRecDepth 20000 in
theorem gX4_parts_X0_hasRange : GoodIn wsX4_parts (wsV RX4 79 RX0 yX0_hasRange wsX0_hasRange) := goodIn_app (goodIn_m _ [(wsX4_parts_r1, [false, false, false, true, true, true, true])] (gm_c mi_wsX4_parts_wsX4_parts_r1 gm_n) rfl (by decide +kernel)) ggX4_parts_X0_hasRange
theorem mi_wsX4_parts_wsX4_parts_r2 : ∀ w ∈ wsX4_parts_r2, w ∈ wsX4_parts := fun _ h => (List.mem_cons_of_mem _ (List.mem_append_left _ (List.mem_append_left _ (List.mem_append_left _ (List.mem_append_left _ (List.mem_append_right _ (List.mem_append_left _ h)))))))
theorem mi_wsX4_parts_wsX4_parts_r3 : ∀ w ∈ wsX4_parts_r3, w ∈ wsX4_parts := fun _ h => (List.mem_cons_of_mem _ (List.mem_append_left _ (List.mem_append_left _ (List.mem_append_left _ (List.mem_append_left _ (List.mem_append_right _ (List.mem_append_right _ (List.mem_append_left _ h))))))))
theorem mi_wsX4_parts_wsX4_parts_r4 : ∀ w ∈ wsX4_parts_r4, w ∈ wsX4_parts := fun _ h => (List.mem_cons_of_mem _ (List.mem_append_left _ (List.mem_append_left _ (List.mem_append_left _ (List.mem_append_left _ (List.mem_append_right _ (List.mem_append_right _ (List.mem_append_right _ (List.mem_append_left _ h)))))))))
theorem mi_wsX4_parts_wsX4_parts_r5 : ∀ w ∈ wsX4_parts_r5, w ∈ wsX4_parts := fun _ h => (List.mem_cons_of_mem _ (List.mem_append_left _ (List.mem_append_left _ (List.mem_append_left _ (List.mem_append_left _ (List.mem_append_right _ (List.mem_append_right _ (List.mem_append_right _ (List.mem_append_right _ h)))))))))
theorem mi_wsX4_parts_wsX40 : ∀ w ∈ wsX40, w ∈ wsX4_parts := fun _ h => (List.mem_cons_of_mem _ (List.mem_append_left _ (List.mem_append_left _ (List.mem_append_left _ (List.mem_append_right _ h)))))
theorem mi_wsX4_parts_wsX20 : ∀ w ∈ wsX20, w ∈ wsX4_parts := fun _ h => (List.mem_cons_of_mem _ (List.mem_append_left _ (List.mem_append_left _ (List.mem_append_right _ h))))
theorem mi_wsX4_parts_wsX30 : ∀ w ∈ wsX30, w ∈ wsX4_parts := fun _ h => (List.mem_cons_of_mem _ (List.mem_append_right _ h))
set_option maxRecDepth 20000 in
theorem ggX4_parts_X4_laidTree : GoodIn wsX4_parts wsX4_laidTree := goodIn_m _ [(wsX4_parts_r1, [false, false, false, false, false, false, false, false, false, false, false, false, false, true, true, true, true, true]), (wsX4_parts_r1, [true, false, false, false, false, false, false, false, false, false, false, false, false, false, false, false, false, false, true, true, true, true, true, true]), (wsX4_parts_r2, [true, true, true, true, true, true, true, true, true, true, true, true, true, true, true, true, true, true, true, true, true, true, true, true]), (wsX4_parts_r3, [true, true, true, true, true, true, true, true, true, true, true, true, true, true, true, true, true, true, true, true, true, true, true, true]), (wsX4_parts_r4, [true, true, true, true, true, true, true, true, true, true, true, true, true, true, true, true, true, true, true, true, true, true, true, true]), (wsX4_parts_r5, [true, true, true, true, true, true, true, true]), (wsX40, [true, true, true, true, true, true, true, true, true]), (wsX20, [true, true, true, true, true, true, true, true, true, true, true]), (wsX00, [true, true]), (wsX30, [true, true, true, true, true])] (gm_c mi_wsX4_parts_wsX4_parts_r1 (gm_c mi_wsX4_parts_wsX4_parts_r1 (gm_c mi_wsX4_parts_wsX4_parts_r2 (gm_c mi_wsX4_parts_wsX4_parts_r3 (gm_c mi_wsX4_parts_wsX4_parts_r4 (gm_c mi_wsX4_parts_wsX4_parts_r5 (gm_c mi_wsX4_parts_wsX40 (gm_c mi_wsX4_parts_wsX20 (gm_c mi_wsX4_parts_wsX00 (gm_c mi_wsX4_parts_wsX30 gm_n)))))))))) rfl (by decide +kernel)
set_option maxRecDepth 20000 in
theorem gX4_parts_X4_laidTree : GoodIn wsX4_parts (wsV RX4 71 RX4 yX4_laidTree wsX4_laidTree) := goodIn_app (goodIn_m _ [(wsX4_parts_r1, [false, false, false, false, false, false, false, false, false, true, true, true, true])] (gm_c mi_wsX4_parts_wsX4_parts_r1 gm_n) rfl (by decide +kernel)) ggX4_parts_X4_laidTree
set_option maxRecDepth 20000 in
theorem ggX4_parts_X2_isPart : GoodIn wsX4_parts wsX2_isPart := goodIn_m _ [(wsX4_parts_r5, [false, false, false, false, false, false, false, false, false, false, false, true]), (wsX4_parts_r2, [false, false, false, true, true]), (wsX20, [true, true, true, true, true, true, true, true, true, true, true])] (gm_c mi_wsX4_parts_wsX4_parts_r5 (gm_c mi_wsX4_parts_wsX4_parts_r2 (gm_c mi_wsX4_parts_wsX20 gm_n))) rfl (by decide +kernel)
set_option maxRecDepth 20000 in
theorem gX4_parts_X2_isPart : GoodIn wsX4_parts (wsV RX4 166 RX2 yX2_isPart wsX2_isPart) := goodIn_app (goodIn_m _ [(wsX4_parts_r5, [false, false, false, false, false, false, false, false, true, true, true]), (wsX4_parts_r1, [false, false, false, false, false, false, false, false, false, false, false, false, false, false, false, false, false, false, false, false, false, false, true])] (gm_c mi_wsX4_parts_wsX4_parts_r5 (gm_c mi_wsX4_parts_wsX4_parts_r1 gm_n)) rfl (by decide +kernel)) ggX4_parts_X2_isPart
def dt_cX4_parts_0 : List (Nat × Nat × Nat × Nat) := [(0, 42, 0, 0), (1, 180, 2, 12), (4, 27, 0, 0), (5, 28, 0, 0), (6, 182, 2, 79), (9, 154, 2, 5), (12, 2, 0, 0), (13, 172, 0, 0), (14, 42, 0, 0), (15, 182, 2, 71), (18, 78, 0, 0), (19, 3, 0, 0), (20, 54, 1, 4), (22, 27, 0, 0), (23, 54, 1, 5), (25, 3, 0, 0), (26, 54, 1, 6), (28, 21, 1, 6), (30, 45, 0, 0), (31, 180, 2, 163)]
theorem da_cX4_parts_0 : fw dt_cX4_parts_0 0 cX4_parts.data.toList = true := by decide +kernel
theorem dX4_parts_0 : decode cX4_parts 0 = .ok (.aload_n 0, 1) := fo_42 (fw_get da_cX4_parts_0 0 rfl)
theorem dX4_parts_1 : decode cX4_parts 1 = .ok (.getfield 12, 3) := fo_180 (fw_get da_cX4_parts_0 1 rfl)
theorem dX4_parts_4 : decode cX4_parts 4 = .ok (.iload_n 1, 1) := fo_27 (fw_get da_cX4_parts_0 2 rfl)
theorem dX4_parts_5 : decode cX4_parts 5 = .ok (.iload_n 2, 1) := fo_28 (fw_get da_cX4_parts_0 3 rfl)
theorem dX4_parts_6 : decode cX4_parts 6 = .ok (.invokevirtual 79, 3) := fo_182 (fw_get da_cX4_parts_0 4 rfl)
theorem dX4_parts_9 : decode cX4_parts 9 = .ok (.ifCond .ne 5, 3) := fo_154 (fw_get da_cX4_parts_0 5 rfl) (by decide +kernel)
theorem dX4_parts_12 : decode cX4_parts 12 = .ok (.iconst (-1), 1) := fo_2 (fw_get da_cX4_parts_0 6 rfl)
theorem dX4_parts_13 : decode cX4_parts 13 = .ok (.ireturn, 1) := fo_172 (fw_get da_cX4_parts_0 7 rfl)
theorem dX4_parts_14 : decode cX4_parts 14 = .ok (.aload_n 0, 1) := fo_42 (fw_get da_cX4_parts_0 8 rfl)
theorem dX4_parts_15 : decode cX4_parts 15 = .ok (.invokevirtual 71, 3) := fo_182 (fw_get da_cX4_parts_0 9 rfl)
theorem dX4_parts_18 : decode cX4_parts 18 = .ok (.astore_n 3, 1) := fo_78 (fw_get da_cX4_parts_0 10 rfl)
theorem dX4_parts_19 : decode cX4_parts 19 = .ok (.iconst 0, 1) := fo_3 (fw_get da_cX4_parts_0 11 rfl)
theorem dX4_parts_20 : decode cX4_parts 20 = .ok (.istore 4, 2) := fo_54 (fw_get da_cX4_parts_0 12 rfl)
theorem dX4_parts_22 : decode cX4_parts 22 = .ok (.iload_n 1, 1) := fo_27 (fw_get da_cX4_parts_0 13 rfl)
theorem dX4_parts_23 : decode cX4_parts 23 = .ok (.istore 5, 2) := fo_54 (fw_get da_cX4_parts_0 14 rfl)
theorem dX4_parts_25 : decode cX4_parts 25 = .ok (.iconst 0, 1) := fo_3 (fw_get da_cX4_parts_0 15 rfl)
theorem dX4_parts_26 : decode cX4_parts 26 = .ok (.istore 6, 2) := fo_54 (fw_get da_cX4_parts_0 16 rfl)
theorem dX4_parts_28 : decode cX4_parts 28 = .ok (.iload 6, 2) := fo_21 (fw_get da_cX4_parts_0 17 rfl)
theorem dX4_parts_30 : decode cX4_parts 30 = .ok (.aload_n 3, 1) := fo_45 (fw_get da_cX4_parts_0 18 rfl)
theorem dX4_parts_31 : decode cX4_parts 31 = .ok (.getfield 163, 3) := fo_180 (fw_get da_cX4_parts_0 19 rfl)
def dt_cX4_parts_1 : List (Nat × Nat × Nat × Nat) := [(34, 162, 2, 33), (37, 45, 0, 0), (38, 21, 1, 6), (40, 21, 1, 5), (42, 28, 0, 0), (43, 182, 2, 166), (46, 153, 2, 15), (49, 45, 0, 0), (50, 180, 2, 154), (53, 21, 1, 6), (55, 46, 0, 0), (56, 54, 1, 5), (58, 132, 2, 1025), (61, 132, 2, 1537), (64, 167, 2, 65500), (67, 21, 1, 4), (69, 172, 0, 0)]
theorem da_cX4_parts_1 : fw dt_cX4_parts_1 0 cX4_parts.data.toList = true := by decide +kernel
theorem dX4_parts_34 : decode cX4_parts 34 = .ok (.if_icmp .ge 33, 3) := fo_162 (fw_get da_cX4_parts_1 0 rfl) (by decide +kernel)
theorem dX4_parts_37 : decode cX4_parts 37 = .ok (.aload_n 3, 1) := fo_45 (fw_get da_cX4_parts_1 1 rfl)
theorem dX4_parts_38 : decode cX4_parts 38 = .ok (.iload 6, 2) := fo_21 (fw_get da_cX4_parts_1 2 rfl)
theorem dX4_parts_40 : decode cX4_parts 40 = .ok (.iload 5, 2) := fo_21 (fw_get da_cX4_parts_1 3 rfl)
theorem dX4_parts_42 : decode cX4_parts 42 = .ok (.iload_n 2, 1) := fo_28 (fw_get da_cX4_parts_1 4 rfl)
theorem dX4_parts_43 : decode cX4_parts 43 = .ok (.invokevirtual 166, 3) := fo_182 (fw_get da_cX4_parts_1 5 rfl)
theorem dX4_parts_46 : decode cX4_parts 46 = .ok (.ifCond .eq 15, 3) := fo_153 (fw_get da_cX4_parts_1 6 rfl) (by decide +kernel)
theorem dX4_parts_49 : decode cX4_parts 49 = .ok (.aload_n 3, 1) := fo_45 (fw_get da_cX4_parts_1 7 rfl)
theorem dX4_parts_50 : decode cX4_parts 50 = .ok (.getfield 154, 3) := fo_180 (fw_get da_cX4_parts_1 8 rfl)
theorem dX4_parts_53 : decode cX4_parts 53 = .ok (.iload 6, 2) := fo_21 (fw_get da_cX4_parts_1 9 rfl)
theorem dX4_parts_55 : decode cX4_parts 55 = .ok (.iaload, 1) := fo_46 (fw_get da_cX4_parts_1 10 rfl)
theorem dX4_parts_56 : decode cX4_parts 56 = .ok (.istore 5, 2) := fo_54 (fw_get da_cX4_parts_1 11 rfl)
theorem dX4_parts_58 : decode cX4_parts 58 = .ok (.iinc 4 1, 3) := fo_132 (fw_get da_cX4_parts_1 12 rfl) rfl (by decide +kernel)
theorem dX4_parts_61 : decode cX4_parts 61 = .ok (.iinc 6 1, 3) := fo_132 (fw_get da_cX4_parts_1 13 rfl) rfl (by decide +kernel)
theorem dX4_parts_64 : decode cX4_parts 64 = .ok (.goto (-36), 3) := fo_167 (fw_get da_cX4_parts_1 14 rfl) (by decide +kernel)
theorem dX4_parts_67 : decode cX4_parts 67 = .ok (.iload 4, 2) := fo_21 (fw_get da_cX4_parts_1 15 rfl)
theorem dX4_parts_69 : decode cX4_parts 69 = .ok (.ireturn, 1) := fo_172 (fw_get da_cX4_parts_1 16 rfl)
theorem mi_wsX4_part_wsX4_part_r1 : ∀ w ∈ wsX4_part_r1, w ∈ wsX4_part := fun _ h => (List.mem_cons_of_mem _ (List.mem_append_left _ (List.mem_append_left _ (List.mem_append_left _ (List.mem_append_left _ (List.mem_append_left _ h))))))
theorem mi_wsX4_part_wsX00 : ∀ w ∈ wsX00, w ∈ wsX4_part := fun _ h => (List.mem_cons_of_mem _ (List.mem_append_left _ (List.mem_append_right _ h)))
set_option maxRecDepth 20000 in
theorem ggX4_part_X0_hasRange : GoodIn wsX4_part wsX0_hasRange := goodIn_m _ [(wsX4_part_r1, [false, false, false, false, false, false, false, false, true, true]), (wsX00, [true, true])] (gm_c mi_wsX4_part_wsX4_part_r1 (gm_c mi_wsX4_part_wsX00 gm_n)) rfl (by decide +kernel)
set_option maxRecDepth 20000 in
theorem gX4_part_X0_hasRange : GoodIn wsX4_part (wsV RX4 79 RX0 yX0_hasRange wsX0_hasRange) := goodIn_app (goodIn_m _ [(wsX4_part_r1, [false, false, false, false, true, true, true, true])] (gm_c mi_wsX4_part_wsX4_part_r1 gm_n) rfl (by decide +kernel)) ggX4_part_X0_hasRange
theorem mi_wsX4_part_wsX4_part_r2 : ∀ w ∈ wsX4_part_r2, w ∈ wsX4_part := fun _ h => (List.mem_cons_of_mem _ (List.mem_append_left _ (List.mem_append_left _ (List.mem_append_left _ (List.mem_append_left _ (List.mem_append_right _ (List.mem_append_left _ h)))))))
theorem mi_wsX4_part_wsX4_part_r3 : ∀ w ∈ wsX4_part_r3, w ∈ wsX4_part := fun _ h => (List.mem_cons_of_mem _ (List.mem_append_left _ (List.mem_append_left _ (List.mem_append_left _ (List.mem_append_left _ (List.mem_append_right _ (List.mem_append_right _ (List.mem_append_left _ h))))))))
theorem mi_wsX4_part_wsX4_part_r4 : ∀ w ∈ wsX4_part_r4, w ∈ wsX4_part := fun _ h => (List.mem_cons_of_mem _ (List.mem_append_left _ (List.mem_append_left _ (List.mem_append_left _ (List.mem_append_left _ (List.mem_append_right _ (List.mem_append_right _ (List.mem_append_right _ (List.mem_append_left _ h)))))))))
theorem mi_wsX4_part_wsX4_part_r5 : ∀ w ∈ wsX4_part_r5, w ∈ wsX4_part := fun _ h => (List.mem_cons_of_mem _ (List.mem_append_left _ (List.mem_append_left _ (List.mem_append_left _ (List.mem_append_left _ (List.mem_append_right _ (List.mem_append_right _ (List.mem_append_right _ (List.mem_append_right _ h)))))))))
theorem mi_wsX4_part_wsX40 : ∀ w ∈ wsX40, w ∈ wsX4_part := fun _ h => (List.mem_cons_of_mem _ (List.mem_append_left _ (List.mem_append_left _ (List.mem_append_left _ (List.mem_append_right _ h)))))
theorem mi_wsX4_part_wsX20 : ∀ w ∈ wsX20, w ∈ wsX4_part := fun _ h => (List.mem_cons_of_mem _ (List.mem_append_left _ (List.mem_append_left _ (List.mem_append_right _ h))))
theorem mi_wsX4_part_wsX30 : ∀ w ∈ wsX30, w ∈ wsX4_part := fun _ h => (List.mem_cons_of_mem _ (List.mem_append_right _ h))
set_option maxRecDepth 20000 in
theorem ggX4_part_X4_laidTree : GoodIn wsX4_part wsX4_laidTree := goodIn_m _ [(wsX4_part_r1, [false, false, false, false, false, false, false, false, false, false, false, false, false, false, true, true, true, true, true]), (wsX4_part_r1, [true, false, false, false, false, false, false, false, false, false, false, false, false, false, false, false, false, false, false, true, true, true, true, true]), (wsX4_part_r2, [true, true, true, true, true, true, true, true, true, true, true, true, true, true, true, true, true, true, true, true, true, true, true, true]), (wsX4_part_r3, [true, true, true, true, true, true, true, true, true, true, true, true, true, true, true, true, true, true, true, true, true, true, true, true]), (wsX4_part_r4, [true, true, true, true, true, true, true, true, true, true, true, true, true, true, true, true, true, true, true, true, true, true, true, true]), (wsX4_part_r5, [true, true, true, true, true, true, true, true, true]), (wsX40, [true, true, true, true, true, true, true, true, true]), (wsX20, [true, true, true, true, true, true, true, true, true, true, true]), (wsX00, [true, true]), (wsX30, [true, true, true, true, true])] (gm_c mi_wsX4_part_wsX4_part_r1 (gm_c mi_wsX4_part_wsX4_part_r1 (gm_c mi_wsX4_part_wsX4_part_r2 (gm_c mi_wsX4_part_wsX4_part_r3 (gm_c mi_wsX4_part_wsX4_part_r4 (gm_c mi_wsX4_part_wsX4_part_r5 (gm_c mi_wsX4_part_wsX40 (gm_c mi_wsX4_part_wsX20 (gm_c mi_wsX4_part_wsX00 (gm_c mi_wsX4_part_wsX30 gm_n)))))))))) rfl (by decide +kernel)
set_option maxRecDepth 20000 in
theorem gX4_part_X4_laidTree : GoodIn wsX4_part (wsV RX4 71 RX4 yX4_laidTree wsX4_laidTree) := goodIn_app (goodIn_m _ [(wsX4_part_r1, [false, false, false, false, false, false, false, false, false, false, true, true, true, true])] (gm_c mi_wsX4_part_wsX4_part_r1 gm_n) rfl (by decide +kernel)) ggX4_part_X4_laidTree
set_option maxRecDepth 20000 in
theorem ggX4_part_X2_isPart : GoodIn wsX4_part wsX2_isPart := goodIn_m _ [(wsX4_part_r5, [false, false, false, false, false, false, false, false, false, false, false, false, true]), (wsX4_part_r2, [false, false, false, false, true, true]), (wsX20, [true, true, true, true, true, true, true, true, true, true, true])] (gm_c mi_wsX4_part_wsX4_part_r5 (gm_c mi_wsX4_part_wsX4_part_r2 (gm_c mi_wsX4_part_wsX20 gm_n))) rfl (by decide +kernel)
set_option maxRecDepth 20000 in
theorem gX4_part_X2_isPart : GoodIn wsX4_part (wsV RX4 166 RX2 yX2_isPart wsX2_isPart) := goodIn_app (goodIn_m _ [(wsX4_part_r5, [false, false, false, false, false, false, false, false, false, true, true, true]), (wsX4_part_r1, [false, false, false, false, false, false, false, false, false, false, false, false, false, false, false, false, false, false, false, false, false, false, false, true])] (gm_c mi_wsX4_part_wsX4_part_r5 (gm_c mi_wsX4_part_wsX4_part_r1 gm_n)) rfl (by decide +kernel)) ggX4_part_X2_isPart
def dt_cX4_part_0 : List (Nat × Nat × Nat × Nat) := [(0, 42, 0, 0), (1, 180, 2, 12), (4, 27, 0, 0), (5, 28, 0, 0), (6, 182, 2, 79), (9, 153, 2, 18), (12, 29, 0, 0), (13, 155, 2, 14), (16, 21, 1, 4), (18, 155, 2, 9), (21, 21, 1, 4), (23, 4, 0, 0), (24, 164, 2, 5), (27, 2, 0, 0), (28, 172, 0, 0), (29, 42, 0, 0), (30, 182, 2, 71), (33, 58, 1, 5), (35, 3, 0, 0), (36, 54, 1, 6)]
theorem da_cX4_part_0 : fw dt_cX4_part_0 0 cX4_part.data.toList = true := by decide +kernel
theorem dX4_part_0 : decode cX4_part 0 = .ok (.aload_n 0, 1) := fo_42 (fw_get da_cX4_part_0 0 rfl)
theorem dX4_part_1 : decode cX4_part 1 = .ok (.getfield 12, 3) := fo_180 (fw_get da_cX4_part_0 1 rfl)
theorem dX4_part_4 : decode cX4_part 4 = .ok (.iload_n 1, 1) := fo_27 (fw_get da_cX4_part_0 2 rfl)
theorem dX4_part_5 : decode cX4_part 5 = .ok (.iload_n 2, 1) := fo_28 (fw_get da_cX4_part_0 3 rfl)
theorem dX4_part_6 : decode cX4_part 6 = .ok (.invokevirtual 79, 3) := fo_182 (fw_get da_cX4_part_0 4 rfl)
theorem dX4_part_9 : decode cX4_part 9 = .ok (.ifCond .eq 18, 3) := fo_153 (fw_get da_cX4_part_0 5 rfl) (by decide +kernel)
theorem dX4_part_12 : decode cX4_part 12 = .ok (.iload_n 3, 1) := fo_29 (fw_get da_cX4_part_0 6 rfl)
theorem dX4_part_13 : decode cX4_part 13 = .ok (.ifCond .lt 14, 3) := fo_155 (fw_get da_cX4_part_0 7 rfl) (by decide +kernel)
theorem dX4_part_16 : decode cX4_part 16 = .ok (.iload 4, 2) := fo_21 (fw_get da_cX4_part_0 8 rfl)
theorem dX4_part_18 : decode cX4_part 18 = .ok (.ifCond .lt 9, 3) := fo_155 (fw_get da_cX4_part_0 9 rfl) (by decide +kernel)
theorem dX4_part_21 : decode cX4_part 21 = .ok (.iload 4, 2) := fo_21 (fw_get da_cX4_part_0 10 rfl)
theorem dX4_part_23 : decode cX4_part 23 = .ok (.iconst 1, 1) := fo_4 (fw_get da_cX4_part_0 11 rfl)
theorem dX4_part_24 : decode cX4_part 24 = .ok (.if_icmp .le 5, 3) := fo_164 (fw_get da_cX4_part_0 12 rfl) (by decide +kernel)
theorem dX4_part_27 : decode cX4_part 27 = .ok (.iconst (-1), 1) := fo_2 (fw_get da_cX4_part_0 13 rfl)
theorem dX4_part_28 : decode cX4_part 28 = .ok (.ireturn, 1) := fo_172 (fw_get da_cX4_part_0 14 rfl)
theorem dX4_part_29 : decode cX4_part 29 = .ok (.aload_n 0, 1) := fo_42 (fw_get da_cX4_part_0 15 rfl)
theorem dX4_part_30 : decode cX4_part 30 = .ok (.invokevirtual 71, 3) := fo_182 (fw_get da_cX4_part_0 16 rfl)
theorem dX4_part_33 : decode cX4_part 33 = .ok (.astore 5, 2) := fo_58 (fw_get da_cX4_part_0 17 rfl)
theorem dX4_part_35 : decode cX4_part 35 = .ok (.iconst 0, 1) := fo_3 (fw_get da_cX4_part_0 18 rfl)
theorem dX4_part_36 : decode cX4_part 36 = .ok (.istore 6, 2) := fo_54 (fw_get da_cX4_part_0 19 rfl)
def dt_cX4_part_1 : List (Nat × Nat × Nat × Nat) := [(38, 27, 0, 0), (39, 54, 1, 7), (41, 3, 0, 0), (42, 54, 1, 8), (44, 21, 1, 8), (46, 25, 1, 5), (48, 180, 2, 163), (51, 162, 2, 66), (54, 25, 1, 5), (56, 21, 1, 8), (58, 21, 1, 7), (60, 28, 0, 0), (61, 182, 2, 166), (64, 153, 2, 47), (67, 21, 1, 6), (69, 29, 0, 0), (70, 160, 2, 28), (73, 21, 1, 4), (75, 154, 2, 14), (78, 25, 1, 5)]
theorem da_cX4_part_1 : fw dt_cX4_part_1 0 cX4_part.data.toList = true := by decide +kernel
theorem dX4_part_38 : decode cX4_part 38 = .ok (.iload_n 1, 1) := fo_27 (fw_get da_cX4_part_1 0 rfl)
theorem dX4_part_39 : decode cX4_part 39 = .ok (.istore 7, 2) := fo_54 (fw_get da_cX4_part_1 1 rfl)
theorem dX4_part_41 : decode cX4_part 41 = .ok (.iconst 0, 1) := fo_3 (fw_get da_cX4_part_1 2 rfl)
theorem dX4_part_42 : decode cX4_part 42 = .ok (.istore 8, 2) := fo_54 (fw_get da_cX4_part_1 3 rfl)
theorem dX4_part_44 : decode cX4_part 44 = .ok (.iload 8, 2) := fo_21 (fw_get da_cX4_part_1 4 rfl)
theorem dX4_part_46 : decode cX4_part 46 = .ok (.aload 5, 2) := fo_25 (fw_get da_cX4_part_1 5 rfl)
theorem dX4_part_48 : decode cX4_part 48 = .ok (.getfield 163, 3) := fo_180 (fw_get da_cX4_part_1 6 rfl)
theorem dX4_part_51 : decode cX4_part 51 = .ok (.if_icmp .ge 66, 3) := fo_162 (fw_get da_cX4_part_1 7 rfl) (by decide +kernel)
theorem dX4_part_54 : decode cX4_part 54 = .ok (.aload 5, 2) := fo_25 (fw_get da_cX4_part_1 8 rfl)
theorem dX4_part_56 : decode cX4_part 56 = .ok (.iload 8, 2) := fo_21 (fw_get da_cX4_part_1 9 rfl)
theorem dX4_part_58 : decode cX4_part 58 = .ok (.iload 7, 2) := fo_21 (fw_get da_cX4_part_1 10 rfl)
theorem dX4_part_60 : decode cX4_part 60 = .ok (.iload_n 2, 1) := fo_28 (fw_get da_cX4_part_1 11 rfl)
theorem dX4_part_61 : decode cX4_part 61 = .ok (.invokevirtual 166, 3) := fo_182 (fw_get da_cX4_part_1 12 rfl)
theorem dX4_part_64 : decode cX4_part 64 = .ok (.ifCond .eq 47, 3) := fo_153 (fw_get da_cX4_part_1 13 rfl) (by decide +kernel)
theorem dX4_part_67 : decode cX4_part 67 = .ok (.iload 6, 2) := fo_21 (fw_get da_cX4_part_1 14 rfl)
theorem dX4_part_69 : decode cX4_part 69 = .ok (.iload_n 3, 1) := fo_29 (fw_get da_cX4_part_1 15 rfl)
theorem dX4_part_70 : decode cX4_part 70 = .ok (.if_icmp .ne 28, 3) := fo_160 (fw_get da_cX4_part_1 16 rfl) (by decide +kernel)
theorem dX4_part_73 : decode cX4_part 73 = .ok (.iload 4, 2) := fo_21 (fw_get da_cX4_part_1 17 rfl)
theorem dX4_part_75 : decode cX4_part 75 = .ok (.ifCond .ne 14, 3) := fo_154 (fw_get da_cX4_part_1 18 rfl) (by decide +kernel)
theorem dX4_part_78 : decode cX4_part 78 = .ok (.aload 5, 2) := fo_25 (fw_get da_cX4_part_1 19 rfl)
def dt_cX4_part_2 : List (Nat × Nat × Nat × Nat) := [(80, 180, 2, 151), (83, 21, 1, 8), (85, 46, 0, 0), (86, 167, 2, 11), (89, 25, 1, 5), (91, 180, 2, 154), (94, 21, 1, 8), (96, 46, 0, 0), (97, 172, 0, 0), (98, 25, 1, 5), (100, 180, 2, 154), (103, 21, 1, 8), (105, 46, 0, 0), (106, 54, 1, 7), (108, 132, 2, 1537), (111, 132, 2, 2049), (114, 167, 2, 65466), (117, 2, 0, 0), (118, 172, 0, 0)]
theorem da_cX4_part_2 : fw dt_cX4_part_2 0 cX4_part.data.toList = true := by decide +kernel
theorem dX4_part_80 : decode cX4_part 80 = .ok (.getfield 151, 3) := fo_180 (fw_get da_cX4_part_2 0 rfl)
theorem dX4_part_83 : decode cX4_part 83 = .ok (.iload 8, 2) := fo_21 (fw_get da_cX4_part_2 1 rfl)
theorem dX4_part_85 : decode cX4_part 85 = .ok (.iaload, 1) := fo_46 (fw_get da_cX4_part_2 2 rfl)
theorem dX4_part_86 : decode cX4_part 86 = .ok (.goto 11, 3) := fo_167 (fw_get da_cX4_part_2 3 rfl) (by decide +kernel)
theorem dX4_part_89 : decode cX4_part 89 = .ok (.aload 5, 2) := fo_25 (fw_get da_cX4_part_2 4 rfl)
theorem dX4_part_91 : decode cX4_part 91 = .ok (.getfield 154, 3) := fo_180 (fw_get da_cX4_part_2 5 rfl)
theorem dX4_part_94 : decode cX4_part 94 = .ok (.iload 8, 2) := fo_21 (fw_get da_cX4_part_2 6 rfl)
theorem dX4_part_96 : decode cX4_part 96 = .ok (.iaload, 1) := fo_46 (fw_get da_cX4_part_2 7 rfl)
theorem dX4_part_97 : decode cX4_part 97 = .ok (.ireturn, 1) := fo_172 (fw_get da_cX4_part_2 8 rfl)
theorem dX4_part_98 : decode cX4_part 98 = .ok (.aload 5, 2) := fo_25 (fw_get da_cX4_part_2 9 rfl)
theorem dX4_part_100 : decode cX4_part 100 = .ok (.getfield 154, 3) := fo_180 (fw_get da_cX4_part_2 10 rfl)
theorem dX4_part_103 : decode cX4_part 103 = .ok (.iload 8, 2) := fo_21 (fw_get da_cX4_part_2 11 rfl)
theorem dX4_part_105 : decode cX4_part 105 = .ok (.iaload, 1) := fo_46 (fw_get da_cX4_part_2 12 rfl)
theorem dX4_part_106 : decode cX4_part 106 = .ok (.istore 7, 2) := fo_54 (fw_get da_cX4_part_2 13 rfl)
theorem dX4_part_108 : decode cX4_part 108 = .ok (.iinc 6 1, 3) := fo_132 (fw_get da_cX4_part_2 14 rfl) rfl (by decide +kernel)
theorem dX4_part_111 : decode cX4_part 111 = .ok (.iinc 8 1, 3) := fo_132 (fw_get da_cX4_part_2 15 rfl) rfl (by decide +kernel)
theorem dX4_part_114 : decode cX4_part 114 = .ok (.goto (-70), 3) := fo_167 (fw_get da_cX4_part_2 16 rfl) (by decide +kernel)
theorem dX4_part_117 : decode cX4_part 117 = .ok (.iconst (-1), 1) := fo_2 (fw_get da_cX4_part_2 17 rfl)
theorem dX4_part_118 : decode cX4_part 118 = .ok (.ireturn, 1) := fo_172 (fw_get da_cX4_part_2 18 rfl)
theorem mi_wsX4_summary_wsX4_summary_r1 : ∀ w ∈ wsX4_summary_r1, w ∈ wsX4_summary := fun _ h => (List.mem_cons_of_mem _ (List.mem_append_left _ (List.mem_append_left _ (List.mem_append_left _ (List.mem_append_left _ (List.mem_append_left _ h))))))
theorem mi_wsX4_summary_wsX00 : ∀ w ∈ wsX00, w ∈ wsX4_summary := fun _ h => (List.mem_cons_of_mem _ (List.mem_append_left _ (List.mem_append_right _ h)))
set_option maxRecDepth 20000 in
theorem ggX4_summary_X0_hasRange : GoodIn wsX4_summary wsX0_hasRange := goodIn_m _ [(wsX4_summary_r1, [false, false, false, false, false, false, false, false, true, true]), (wsX00, [true, true])] (gm_c mi_wsX4_summary_wsX4_summary_r1 (gm_c mi_wsX4_summary_wsX00 gm_n)) rfl (by decide +kernel)
set_option maxRecDepth 20000 in
theorem gX4_summary_X0_hasRange : GoodIn wsX4_summary (wsV RX4 79 RX0 yX0_hasRange wsX0_hasRange) := goodIn_app (goodIn_m _ [(wsX4_summary_r1, [false, false, false, false, true, true, true, true])] (gm_c mi_wsX4_summary_wsX4_summary_r1 gm_n) rfl (by decide +kernel)) ggX4_summary_X0_hasRange
theorem mi_wsX4_summary_wsX4_summary_r2 : ∀ w ∈ wsX4_summary_r2, w ∈ wsX4_summary := fun _ h => (List.mem_cons_of_mem _ (List.mem_append_left _ (List.mem_append_left _ (List.mem_append_left _ (List.mem_append_left _ (List.mem_append_right _ (List.mem_append_left _ h)))))))
theorem mi_wsX4_summary_wsX4_summary_r3 : ∀ w ∈ wsX4_summary_r3, w ∈ wsX4_summary := fun _ h => (List.mem_cons_of_mem _ (List.mem_append_left _ (List.mem_append_left _ (List.mem_append_left _ (List.mem_append_left _ (List.mem_append_right _ (List.mem_append_right _ (List.mem_append_left _ h))))))))
theorem mi_wsX4_summary_wsX4_summary_r4 : ∀ w ∈ wsX4_summary_r4, w ∈ wsX4_summary := fun _ h => (List.mem_cons_of_mem _ (List.mem_append_left _ (List.mem_append_left _ (List.mem_append_left _ (List.mem_append_left _ (List.mem_append_right _ (List.mem_append_right _ (List.mem_append_right _ (List.mem_append_left _ h)))))))))
theorem mi_wsX4_summary_wsX4_summary_r5 : ∀ w ∈ wsX4_summary_r5, w ∈ wsX4_summary := fun _ h => (List.mem_cons_of_mem _ (List.mem_append_left _ (List.mem_append_left _ (List.mem_append_left _ (List.mem_append_left _ (List.mem_append_right _ (List.mem_append_right _ (List.mem_append_right _ (List.mem_append_right _ h)))))))))
theorem mi_wsX4_summary_wsX40 : ∀ w ∈ wsX40, w ∈ wsX4_summary := fun _ h => (List.mem_cons_of_mem _ (List.mem_append_left _ (List.mem_append_left _ (List.mem_append_left _ (List.mem_append_right _ h)))))
theorem mi_wsX4_summary_wsX20 : ∀ w ∈ wsX20, w ∈ wsX4_summary := fun _ h => (List.mem_cons_of_mem _ (List.mem_append_right _ h))
theorem mi_wsX4_summary_wsX30 : ∀ w ∈ wsX30, w ∈ wsX4_summary := fun _ h => (List.mem_cons_of_mem _ (List.mem_append_left _ (List.mem_append_left _ (List.mem_append_right _ h))))
set_option maxRecDepth 20000 in
theorem ggX4_summary_X4_laidTree : GoodIn wsX4_summary wsX4_laidTree := goodIn_m _ [(wsX4_summary_r1, [false, false, false, false, false, false, false, false, false, false, false, false, false, false, true, true, true, true, true]), (wsX4_summary_r1, [true, false, false, false, false, false, false, false, false, false, false, false, false, false, false, false, false, false, false, true, true, true, true, true]), (wsX4_summary_r2, [true, true, true, true, true, true, true, true, true, true, true, true, true, true, true, true, true, true, true, true, true, true, true, true]), (wsX4_summary_r3, [true, true, true, true, true, true, true, true, true, true, true, true, true, true, true, true, true, true, true, true, true, true, true, true]), (wsX4_summary_r4, [true, true, true, true, true, true, true, true, true, true, true, true, true, true, true, true, true, true, true, true, true, true, true, true]), (wsX4_summary_r5, [true, true, true, true, true, true, true, true, true]), (wsX40, [true, true, true, true, true, true, true, true, true]), (wsX20, [true, true, true, true, true, true, true, true, true, true, true]), (wsX00, [true, true]), (wsX30, [true, true, true, true, true])] (gm_c mi_wsX4_summary_wsX4_summary_r1 (gm_c mi_wsX4_summary_wsX4_summary_r1 (gm_c mi_wsX4_summary_wsX4_summary_r2 (gm_c mi_wsX4_summary_wsX4_summary_r3 (gm_c mi_wsX4_summary_wsX4_summary_r4 (gm_c mi_wsX4_summary_wsX4_summary_r5 (gm_c mi_wsX4_summary_wsX40 (gm_c mi_wsX4_summary_wsX20 (gm_c mi_wsX4_summary_wsX00 (gm_c mi_wsX4_summary_wsX30 gm_n)))))))))) rfl (by decide +kernel)
set_option maxRecDepth 20000 in
theorem gX4_summary_X4_laidTree : GoodIn wsX4_summary (wsV RX4 71 RX4 yX4_laidTree wsX4_laidTree) := goodIn_app (goodIn_m _ [(wsX4_summary_r1, [false, false, false, false, false, false, false, false, false, false, true, true, true, true])] (gm_c mi_wsX4_summary_wsX4_summary_r1 gm_n) rfl (by decide +kernel)) ggX4_summary_X4_laidTree
set_option maxRecDepth 20000 in
theorem ggX4_summary_X2_gather : GoodIn wsX4_summary wsX2_gather := goodIn_m _ [(wsX4_summary_r5, [false, false, false, false, false, false, false, false, false, false, false, false, true]), (wsX4_summary_r2, [false, false, false, true, false, true]), (wsX4_summary_r3, [true, true, true, true, true, true, true, true, true]), (wsX4_summary_r5, [false, false, false, false, false, false, false, false, false, false, false, false, false, true, true, true]), (wsX4_summary_r1, [false, false, false, false, false, false, false, false, false, false, false, false, false, false, false, false, false, false, false, false, false, false, false, true]), (wsX4_summary_r5, [false, false, false, false, false, false, false, false, false, false, false, false, false, false, false, false, true]), (wsX4_summary_r2, [false, false, false, false, true]), (wsX4_summary_r3, [false, false, false, false, false, false, false, false, false, false, false, false, false, false, false, true, true, true, true, true, true, true, true, true]), (wsX4_summary_r3, [false, false, false, false, false, false, false, false, false, true, true, true, true, true, true]), (wsX4_summary_r4, [true, true, true, true, true, true, true, true, true, true, true, true, true, true, true, true]), (wsX20, [true, true, true, true, true, true, true, true, true, true, true]), (wsX30, [true, true, true, true, true])] (gm_c mi_wsX4_summary_wsX4_summary_r5 (gm_c mi_wsX4_summary_wsX4_summary_r2 (gm_c mi_wsX4_summary_wsX4_summary_r3 (gm_c mi_wsX4_summary_wsX4_summary_r5 (gm_c mi_wsX4_summary_wsX4_summary_r1 (gm_c mi_wsX4_summary_wsX4_summary_r5 (gm_c mi_wsX4_summary_wsX4_summary_r2 (gm_c mi_wsX4_summary_wsX4_summary_r3 (gm_c mi_wsX4_summary_wsX4_summary_r3 (gm_c mi_wsX4_summary_wsX4_summary_r4 (gm_c mi_wsX4_summary_wsX20 (gm_c mi_wsX4_summary_wsX30 gm_n)))))))))))) rfl (by decide +kernel)
set_option maxRecDepth 20000 in
theorem gX4_summary_X2_gather : GoodIn wsX4_summary (wsV RX4 170 RX2 yX2_gather wsX2_gather) := goodIn_app (goodIn_m _ [(wsX4_summary_r5, [false, false, false, false, false, false, false, false, false, true, true, true]), (wsX4_summary_r1, [false, false, false, false, false, false, false, false, false, false, false, false, false, false, false, false, false, false, false, false, false, false, false, true])] (gm_c mi_wsX4_summary_wsX4_summary_r5 (gm_c mi_wsX4_summary_wsX4_summary_r1 gm_n)) rfl (by decide +kernel)) ggX4_summary_X2_gather
set_option maxRecDepth 20000 in
theorem ggX4_summary_X3_total : GoodIn wsX4_summary wsX3_total := goodIn_m _ [(wsX4_summary_r5, [false, false, false, false, false, false, false, false, false, false, false, false, false, false, false, false, false, false, false, false, true]), (wsX4_summary_r3, [false, false, false, false, false, false, true, false, false, false, false, false, false, false, true]), (wsX30, [true, true, true, true, true])] (gm_c mi_wsX4_summary_wsX4_summary_r5 (gm_c mi_wsX4_summary_wsX4_summary_r3 (gm_c mi_wsX4_summary_wsX30 gm_n))) rfl (by decide +kernel)
set_option maxRecDepth 20000 in
theorem gX4_summary_X3_total : GoodIn wsX4_summary (wsV RX4 176 RX3 yX3_total wsX3_total) := goodIn_app (goodIn_m _ [(wsX4_summary_r5, [false, false, false, false, false, false, false, false, false, false, false, false, false, false, false, false, false, true, true, true]), (wsX4_summary_r3, [false, false, false, false, true])] (gm_c mi_wsX4_summary_wsX4_summary_r5 (gm_c mi_wsX4_summary_wsX4_summary_r3 gm_n)) rfl (by decide +kernel)) ggX4_summary_X3_total
def dt_cX4_summary_0 : List (Nat × Nat × Nat × Nat) := [(0, 42, 0, 0), (1, 180, 2, 12), (4, 27, 0, 0), (5, 28, 0, 0), (6, 182, 2, 79), (9, 153, 2, 12), (12, 29, 0, 0), (13, 155, 2, 8), (16, 29, 0, 0), (17, 5, 0, 0), (18, 164, 2, 5), (21, 2, 0, 0), (22, 172, 0, 0), (23, 42, 0, 0), (24, 182, 2, 71), (27, 42, 0, 0), (28, 180, 2, 35), (31, 27, 0, 0), (32, 28, 0, 0), (33, 182, 2, 170)]
theorem da_cX4_summary_0 : fw dt_cX4_summary_0 0 cX4_summary.data.toList = true := by decide +kernel
theorem dX4_summary_0 : decode cX4_summary 0 = .ok (.aload_n 0, 1) := fo_42 (fw_get da_cX4_summary_0 0 rfl)
theorem dX4_summary_1 : decode cX4_summary 1 = .ok (.getfield 12, 3) := fo_180 (fw_get da_cX4_summary_0 1 rfl)
theorem dX4_summary_4 : decode cX4_summary 4 = .ok (.iload_n 1, 1) := fo_27 (fw_get da_cX4_summary_0 2 rfl)
theorem dX4_summary_5 : decode cX4_summary 5 = .ok (.iload_n 2, 1) := fo_28 (fw_get da_cX4_summary_0 3 rfl)
theorem dX4_summary_6 : decode cX4_summary 6 = .ok (.invokevirtual 79, 3) := fo_182 (fw_get da_cX4_summary_0 4 rfl)
theorem dX4_summary_9 : decode cX4_summary 9 = .ok (.ifCond .eq 12, 3) := fo_153 (fw_get da_cX4_summary_0 5 rfl) (by decide +kernel)
theorem dX4_summary_12 : decode cX4_summary 12 = .ok (.iload_n 3, 1) := fo_29 (fw_get da_cX4_summary_0 6 rfl)
theorem dX4_summary_13 : decode cX4_summary 13 = .ok (.ifCond .lt 8, 3) := fo_155 (fw_get da_cX4_summary_0 7 rfl) (by decide +kernel)
theorem dX4_summary_16 : decode cX4_summary 16 = .ok (.iload_n 3, 1) := fo_29 (fw_get da_cX4_summary_0 8 rfl)
theorem dX4_summary_17 : decode cX4_summary 17 = .ok (.iconst 2, 1) := fo_5 (fw_get da_cX4_summary_0 9 rfl)
theorem dX4_summary_18 : decode cX4_summary 18 = .ok (.if_icmp .le 5, 3) := fo_164 (fw_get da_cX4_summary_0 10 rfl) (by decide +kernel)
theorem dX4_summary_21 : decode cX4_summary 21 = .ok (.iconst (-1), 1) := fo_2 (fw_get da_cX4_summary_0 11 rfl)
theorem dX4_summary_22 : decode cX4_summary 22 = .ok (.ireturn, 1) := fo_172 (fw_get da_cX4_summary_0 12 rfl)
theorem dX4_summary_23 : decode cX4_summary 23 = .ok (.aload_n 0, 1) := fo_42 (fw_get da_cX4_summary_0 13 rfl)
theorem dX4_summary_24 : decode cX4_summary 24 = .ok (.invokevirtual 71, 3) := fo_182 (fw_get da_cX4_summary_0 14 rfl)
theorem dX4_summary_27 : decode cX4_summary 27 = .ok (.aload_n 0, 1) := fo_42 (fw_get da_cX4_summary_0 15 rfl)
theorem dX4_summary_28 : decode cX4_summary 28 = .ok (.getfield 35, 3) := fo_180 (fw_get da_cX4_summary_0 16 rfl)
theorem dX4_summary_31 : decode cX4_summary 31 = .ok (.iload_n 1, 1) := fo_27 (fw_get da_cX4_summary_0 17 rfl)
theorem dX4_summary_32 : decode cX4_summary 32 = .ok (.iload_n 2, 1) := fo_28 (fw_get da_cX4_summary_0 18 rfl)
theorem dX4_summary_33 : decode cX4_summary 33 = .ok (.invokevirtual 170, 3) := fo_182 (fw_get da_cX4_summary_0 19 rfl)
def dt_cX4_summary_1 : List (Nat × Nat × Nat × Nat) := [(36, 29, 0, 0)]
theorem da_cX4_summary_1 : fw dt_cX4_summary_1 0 cX4_summary.data.toList = true := by decide +kernel
theorem dX4_summary_36 : decode cX4_summary 36 = .ok (.iload_n 3, 1) := fo_29 (fw_get da_cX4_summary_1 0 rfl)
theorem dX4_summary_37 : decode cX4_summary 37 = .ok (.lookupswitch 43 #[(0, 27), (1, 35)], 27) := by decide +kernel
def dt_cX4_summary_2 : List (Nat × Nat × Nat × Nat) := [(64, 42, 0, 0), (65, 180, 2, 35), (68, 180, 2, 174), (71, 172, 0, 0), (72, 42, 0, 0), (73, 180, 2, 35), (76, 182, 2, 176), (79, 172, 0, 0), (80, 42, 0, 0), (81, 180, 2, 35), (84, 180, 2, 180), (87, 172, 0, 0)]
theorem da_cX4_summary_2 : fw dt_cX4_summary_2 0 cX4_summary.data.toList = true := by decide +kernel
theorem dX4_summary_64 : decode cX4_summary 64 = .ok (.aload_n 0, 1) := fo_42 (fw_get da_cX4_summary_2 0 rfl)
theorem dX4_summary_65 : decode cX4_summary 65 = .ok (.getfield 35, 3) := fo_180 (fw_get da_cX4_summary_2 1 rfl)
theorem dX4_summary_68 : decode cX4_summary 68 = .ok (.getfield 174, 3) := fo_180 (fw_get da_cX4_summary_2 2 rfl)
theorem dX4_summary_71 : decode cX4_summary 71 = .ok (.ireturn, 1) := fo_172 (fw_get da_cX4_summary_2 3 rfl)
theorem dX4_summary_72 : decode cX4_summary 72 = .ok (.aload_n 0, 1) := fo_42 (fw_get da_cX4_summary_2 4 rfl)
theorem dX4_summary_73 : decode cX4_summary 73 = .ok (.getfield 35, 3) := fo_180 (fw_get da_cX4_summary_2 5 rfl)
theorem dX4_summary_76 : decode cX4_summary 76 = .ok (.invokevirtual 176, 3) := fo_182 (fw_get da_cX4_summary_2 6 rfl)
theorem dX4_summary_79 : decode cX4_summary 79 = .ok (.ireturn, 1) := fo_172 (fw_get da_cX4_summary_2 7 rfl)
theorem dX4_summary_80 : decode cX4_summary 80 = .ok (.aload_n 0, 1) := fo_42 (fw_get da_cX4_summary_2 8 rfl)
theorem dX4_summary_81 : decode cX4_summary 81 = .ok (.getfield 35, 3) := fo_180 (fw_get da_cX4_summary_2 9 rfl)
theorem dX4_summary_84 : decode cX4_summary 84 = .ok (.getfield 180, 3) := fo_180 (fw_get da_cX4_summary_2 10 rfl)
theorem dX4_summary_87 : decode cX4_summary 87 = .ok (.ireturn, 1) := fo_172 (fw_get da_cX4_summary_2 11 rfl)
theorem mi_wsX4_lost_wsX4_lost_r1 : ∀ w ∈ wsX4_lost_r1, w ∈ wsX4_lost := fun _ h => (List.mem_cons_of_mem _ (List.mem_append_left _ (List.mem_append_left _ (List.mem_append_left _ (List.mem_append_left _ (List.mem_append_left _ h))))))
set_option maxRecDepth 20000 in
theorem ggX4_lost_X4_isValue : GoodIn wsX4_lost wsX4_isValue := goodIn_m _ [(wsX4_lost_r1, [false, false, false, false, false, true])] (gm_c mi_wsX4_lost_wsX4_lost_r1 gm_n) rfl (by decide +kernel)
set_option maxRecDepth 20000 in
theorem gX4_lost_X4_isValue : GoodIn wsX4_lost (va_wsS RX4 68 yX4_isValue wsX4_isValue) := goodIn_app (goodIn_m _ [(wsX4_lost_r1, [false, false, true, true, true])] (gm_c mi_wsX4_lost_wsX4_lost_r1 gm_n) rfl (by decide +kernel)) ggX4_lost_X4_isValue
theorem mi_wsX4_lost_wsX00 : ∀ w ∈ wsX00, w ∈ wsX4_lost := fun _ h => (List.mem_cons_of_mem _ (List.mem_append_left _ (List.mem_append_left _ (List.mem_append_right _ h))))
set_option maxRecDepth 20000 in
theorem ggX4_lost_X0_hasRange : GoodIn wsX4_lost wsX0_hasRange := goodIn_m _ [(wsX4_lost_r1, [false, false, false, false, false, false, false, false, false, false, true, true]), (wsX00, [true, true])] (gm_c mi_wsX4_lost_wsX4_lost_r1 (gm_c mi_wsX4_lost_wsX00 gm_n)) rfl (by decide +kernel)
set_option maxRecDepth 20000 in
theorem gX4_lost_X0_hasRange : GoodIn wsX4_lost (wsV RX4 79 RX0 yX0_hasRange wsX0_hasRange) := goodIn_app (goodIn_m _ [(wsX4_lost_r1, [false, false, false, false, false, false, true, true, true, true])] (gm_c mi_wsX4_lost_wsX4_lost_r1 gm_n) rfl (by decide +kernel)) ggX4_lost_X0_hasRange
theorem mi_wsX4_lost_wsX4_lost_r2 : ∀ w ∈ wsX4_lost_r2, w ∈ wsX4_lost := fun _ h => (List.mem_cons_of_mem _ (List.mem_append_left _ (List.mem_append_left _ (List.mem_append_left _ (List.mem_append_left _ (List.mem_append_right _ (List.mem_append_left _ h)))))))
theorem mi_wsX4_lost_wsX4_lost_r3 : ∀ w ∈ wsX4_lost_r3, w ∈ wsX4_lost := fun _ h => (List.mem_cons_of_mem _ (List.mem_append_left _ (List.mem_append_left _ (List.mem_append_left _ (List.mem_append_left _ (List.mem_append_right _ (List.mem_append_right _ (List.mem_append_left _ h))))))))
theorem mi_wsX4_lost_wsX4_lost_r4 : ∀ w ∈ wsX4_lost_r4, w ∈ wsX4_lost := fun _ h => (List.mem_cons_of_mem _ (List.mem_append_left _ (List.mem_append_left _ (List.mem_append_left _ (List.mem_append_left _ (List.mem_append_right _ (List.mem_append_right _ (List.mem_append_right _ (List.mem_append_left _ h)))))))))
theorem mi_wsX4_lost_wsX4_lost_r5 : ∀ w ∈ wsX4_lost_r5, w ∈ wsX4_lost := fun _ h => (List.mem_cons_of_mem _ (List.mem_append_left _ (List.mem_append_left _ (List.mem_append_left _ (List.mem_append_left _ (List.mem_append_right _ (List.mem_append_right _ (List.mem_append_right _ (List.mem_append_right _ (List.mem_append_left _ h))))))))))
theorem mi_wsX4_lost_wsX40 : ∀ w ∈ wsX40, w ∈ wsX4_lost := fun _ h => (List.mem_cons_of_mem _ (List.mem_append_left _ (List.mem_append_left _ (List.mem_append_left _ (List.mem_append_right _ h)))))
theorem mi_wsX4_lost_wsX20 : ∀ w ∈ wsX20, w ∈ wsX4_lost := fun _ h => (List.mem_cons_of_mem _ (List.mem_append_left _ (List.mem_append_right _ h)))
theorem mi_wsX4_lost_wsX30 : ∀ w ∈ wsX30, w ∈ wsX4_lost := fun _ h => (List.mem_cons_of_mem _ (List.mem_append_right _ h))
set_option maxRecDepth 20000 in
theorem ggX4_lost_X4_laidTree : GoodIn wsX4_lost wsX4_laidTree := goodIn_m _ [(wsX4_lost_r1, [false, false, false, false, false, false, false, false, false, false, false, false, false, false, false, true, true, true, true, true]), (wsX4_lost_r1, [true, false, false, false, false, false, false, false, false, false, false, false, false, false, false, false, false, false, false, false, true, true, true, true]), (wsX4_lost_r2, [true, true, true, true, true, true, true, true, true, true, true, true, true, true, true, true, true, true, true, true, true, true, true, true]), (wsX4_lost_r3, [true, true, true, true, true, true, true, true, true, true, true, true, true, true, true, true, true, true, true, true, true, true, true, true]), (wsX4_lost_r4, [true, true, true, true, true, true, true, true, true, true, true, true, true, true, true, true, true, true, true, true, true, true, true, true]), (wsX4_lost_r5, [true, true, true, true, true, true, true, true, true, true]), (wsX40, [true, true, true, true, true, true, true, true, true]), (wsX20, [true, true, true, true, true, true, true, true, true, true, true]), (wsX00, [true, true]), (wsX30, [true, true, true, true, true])] (gm_c mi_wsX4_lost_wsX4_lost_r1 (gm_c mi_wsX4_lost_wsX4_lost_r1 (gm_c mi_wsX4_lost_wsX4_lost_r2 (gm_c mi_wsX4_lost_wsX4_lost_r3 (gm_c mi_wsX4_lost_wsX4_lost_r4 (gm_c mi_wsX4_lost_wsX4_lost_r5 (gm_c mi_wsX4_lost_wsX40 (gm_c mi_wsX4_lost_wsX20 (gm_c mi_wsX4_lost_wsX00 (gm_c mi_wsX4_lost_wsX30 gm_n)))))))))) rfl (by decide +kernel)
set_option maxRecDepth 20000 in
theorem gX4_lost_X4_laidTree : GoodIn wsX4_lost (wsV RX4 71 RX4 yX4_laidTree wsX4_laidTree) := goodIn_app (goodIn_m _ [(wsX4_lost_r1, [false, false, false, false, false, false, false, false, false, false, false, false, true, true, true]), (wsX4_lost_r1, [false, false, false, false, true])] (gm_c mi_wsX4_lost_wsX4_lost_r1 (gm_c mi_wsX4_lost_wsX4_lost_r1 gm_n)) rfl (by decide +kernel)) ggX4_lost_X4_laidTree
set_option maxRecDepth 20000 in
theorem ggX4_lost_X2_gather : GoodIn wsX4_lost wsX2_gather := goodIn_m _ [(wsX4_lost_r5, [false, false, false, false, false, false, false, false, false, false, false, false, false, true]), (wsX4_lost_r2, [false, false, false, false, true, false, true]), (wsX4_lost_r3, [false, true, true, true, true, true, true, true, true, true]), (wsX4_lost_r5, [false, false, false, false, false, false, false, false, false, false, false, false, false, false, true, true, true]), (wsX4_lost_r2, [true]), (wsX4_lost_r5, [false, false, false, false, false, false, false, false, false, false, false, false, false, false, false, false, false, true]), (wsX4_lost_r2, [false, false, false, false, false, true]), (wsX4_lost_r3, [false, false, false, false, false, false, false, false, false, false, false, false, false, false, false, false, true, true, true, true, true, true, true, true]), (wsX4_lost_r4, [true]), (wsX4_lost_r3, [false, false, false, false, false, false, false, false, false, false, true, true, true, true, true, true]), (wsX4_lost_r4, [false, true, true, true, true, true, true, true, true, true, true, true, true, true, true, true, true]), (wsX20, [true, true, true, true, true, true, true, true, true, true, true]), (wsX30, [true, true, true, true, true])] (gm_c mi_wsX4_lost_wsX4_lost_r5 (gm_c mi_wsX4_lost_wsX4_lost_r2 (gm_c mi_wsX4_lost_wsX4_lost_r3 (gm_c mi_wsX4_lost_wsX4_lost_r5 (gm_c mi_wsX4_lost_wsX4_lost_r2 (gm_c mi_wsX4_lost_wsX4_lost_r5 (gm_c mi_wsX4_lost_wsX4_lost_r2 (gm_c mi_wsX4_lost_wsX4_lost_r3 (gm_c mi_wsX4_lost_wsX4_lost_r4 (gm_c mi_wsX4_lost_wsX4_lost_r3 (gm_c mi_wsX4_lost_wsX4_lost_r4 (gm_c mi_wsX4_lost_wsX20 (gm_c mi_wsX4_lost_wsX30 gm_n))))))))))))) rfl (by decide +kernel)
set_option maxRecDepth 20000 in
theorem gX4_lost_X2_gather : GoodIn wsX4_lost (wsV RX4 170 RX2 yX2_gather wsX2_gather) := goodIn_app (goodIn_m _ [(wsX4_lost_r5, [false, false, false, false, false, false, false, false, false, false, true, true, true]), (wsX4_lost_r2, [true])] (gm_c mi_wsX4_lost_wsX4_lost_r5 (gm_c mi_wsX4_lost_wsX4_lost_r2 gm_n)) rfl (by decide +kernel)) ggX4_lost_X2_gather
set_option maxRecDepth 20000 in
theorem ggX4_lost_X0_oftenIn : GoodIn wsX4_lost wsX0_oftenIn := goodIn_m _ [(wsX4_lost_r5, [false, false, false, false, false, false, false, false, false, false, false, false, false, false, false, false, false, false, false, false, false, true, true]), (wsX00, [true, true])] (gm_c mi_wsX4_lost_wsX4_lost_r5 (gm_c mi_wsX4_lost_wsX00 gm_n)) rfl (by decide +kernel)
set_option maxRecDepth 20000 in
theorem gX4_lost_X0_oftenIn : GoodIn wsX4_lost (wsV RX4 113 RX0 yX0_oftenIn wsX0_oftenIn) := goodIn_app (goodIn_m _ [(wsX4_lost_r5, [false, false, false, false, false, false, false, false, false, false, false, false, false, false, false, false, false, false, true, true, true]), (wsX4_lost_r1, [false, false, false, false, false, false, false, false, false, true])] (gm_c mi_wsX4_lost_wsX4_lost_r5 (gm_c mi_wsX4_lost_wsX4_lost_r1 gm_n)) rfl (by decide +kernel)) ggX4_lost_X0_oftenIn
theorem mi_wsX4_lost_wsX4_lost_r6 : ∀ w ∈ wsX4_lost_r6, w ∈ wsX4_lost := fun _ h => (List.mem_cons_of_mem _ (List.mem_append_left _ (List.mem_append_left _ (List.mem_append_left _ (List.mem_append_left _ (List.mem_append_right _ (List.mem_append_right _ (List.mem_append_right _ (List.mem_append_right _ (List.mem_append_right _ h))))))))))
set_option maxRecDepth 20000 in
theorem ggX4_lost_X3_numberOf : GoodIn wsX4_lost wsX3_numberOf := goodIn_m _ [(wsX4_lost_r6, [false, false, true]), (wsX4_lost_r3, [false, false, false, false, false, false, false, true, false, false, false, false, false, false, true, true]), (wsX30, [true, true, true, true, true])] (gm_c mi_wsX4_lost_wsX4_lost_r6 (gm_c mi_wsX4_lost_wsX4_lost_r3 (gm_c mi_wsX4_lost_wsX30 gm_n))) rfl (by decide +kernel)
set_option maxRecDepth 20000 in
theorem gX4_lost_X3_numberOf : GoodIn wsX4_lost (wsV RX4 183 RX3 yX3_numberOf wsX3_numberOf) := goodIn_app (goodIn_m _ [(wsX4_lost_r5, [false, false, false, false, false, false, false, false, false, false, false, false, false, false, false, false, false, false, false, false, false, false, false, true]), (wsX4_lost_r6, [true, true]), (wsX4_lost_r3, [false, false, false, false, false, true])] (gm_c mi_wsX4_lost_wsX4_lost_r5 (gm_c mi_wsX4_lost_wsX4_lost_r6 (gm_c mi_wsX4_lost_wsX4_lost_r3 gm_n))) rfl (by decide +kernel)) ggX4_lost_X3_numberOf
def dt_cX4_lost_0 : List (Nat × Nat × Nat × Nat) := [(0, 27, 0, 0), (1, 184, 2, 68), (4, 153, 2, 15), (7, 42, 0, 0), (8, 180, 2, 12), (11, 28, 0, 0), (12, 29, 0, 0), (13, 182, 2, 79), (16, 154, 2, 5), (19, 2, 0, 0), (20, 172, 0, 0), (21, 42, 0, 0), (22, 182, 2, 71), (25, 42, 0, 0), (26, 180, 2, 35), (29, 28, 0, 0), (30, 29, 0, 0), (31, 182, 2, 170), (34, 42, 0, 0), (35, 180, 2, 12)]
theorem da_cX4_lost_0 : fw dt_cX4_lost_0 0 cX4_lost.data.toList = true := by decide +kernel
theorem dX4_lost_0 : decode cX4_lost 0 = .ok (.iload_n 1, 1) := fo_27 (fw_get da_cX4_lost_0 0 rfl)
theorem dX4_lost_1 : decode cX4_lost 1 = .ok (.invokestatic 68, 3) := fo_184 (fw_get da_cX4_lost_0 1 rfl)
theorem dX4_lost_4 : decode cX4_lost 4 = .ok (.ifCond .eq 15, 3) := fo_153 (fw_get da_cX4_lost_0 2 rfl) (by decide +kernel)
theorem dX4_lost_7 : decode cX4_lost 7 = .ok (.aload_n 0, 1) := fo_42 (fw_get da_cX4_lost_0 3 rfl)
theorem dX4_lost_8 : decode cX4_lost 8 = .ok (.getfield 12, 3) := fo_180 (fw_get da_cX4_lost_0 4 rfl)
theorem dX4_lost_11 : decode cX4_lost 11 = .ok (.iload_n 2, 1) := fo_28 (fw_get da_cX4_lost_0 5 rfl)
theorem dX4_lost_12 : decode cX4_lost 12 = .ok (.iload_n 3, 1) := fo_29 (fw_get da_cX4_lost_0 6 rfl)
theorem dX4_lost_13 : decode cX4_lost 13 = .ok (.invokevirtual 79, 3) := fo_182 (fw_get da_cX4_lost_0 7 rfl)
theorem dX4_lost_16 : decode cX4_lost 16 = .ok (.ifCond .ne 5, 3) := fo_154 (fw_get da_cX4_lost_0 8 rfl) (by decide +kernel)
theorem dX4_lost_19 : decode cX4_lost 19 = .ok (.iconst (-1), 1) := fo_2 (fw_get da_cX4_lost_0 9 rfl)
theorem dX4_lost_20 : decode cX4_lost 20 = .ok (.ireturn, 1) := fo_172 (fw_get da_cX4_lost_0 10 rfl)
theorem dX4_lost_21 : decode cX4_lost 21 = .ok (.aload_n 0, 1) := fo_42 (fw_get da_cX4_lost_0 11 rfl)
theorem dX4_lost_22 : decode cX4_lost 22 = .ok (.invokevirtual 71, 3) := fo_182 (fw_get da_cX4_lost_0 12 rfl)
theorem dX4_lost_25 : decode cX4_lost 25 = .ok (.aload_n 0, 1) := fo_42 (fw_get da_cX4_lost_0 13 rfl)
theorem dX4_lost_26 : decode cX4_lost 26 = .ok (.getfield 35, 3) := fo_180 (fw_get da_cX4_lost_0 14 rfl)
theorem dX4_lost_29 : decode cX4_lost 29 = .ok (.iload_n 2, 1) := fo_28 (fw_get da_cX4_lost_0 15 rfl)
theorem dX4_lost_30 : decode cX4_lost 30 = .ok (.iload_n 3, 1) := fo_29 (fw_get da_cX4_lost_0 16 rfl)
theorem dX4_lost_31 : decode cX4_lost 31 = .ok (.invokevirtual 170, 3) := fo_182 (fw_get da_cX4_lost_0 17 rfl)
theorem dX4_lost_34 : decode cX4_lost 34 = .ok (.aload_n 0, 1) := fo_42 (fw_get da_cX4_lost_0 18 rfl)
theorem dX4_lost_35 : decode cX4_lost 35 = .ok (.getfield 12, 3) := fo_180 (fw_get da_cX4_lost_0 19 rfl)
def dt_cX4_lost_1 : List (Nat × Nat × Nat × Nat) := [(38, 27, 0, 0), (39, 28, 0, 0), (40, 29, 0, 0), (41, 182, 2, 113), (44, 42, 0, 0), (45, 180, 2, 35), (48, 27, 0, 0), (49, 182, 2, 183), (52, 100, 0, 0), (53, 172, 0, 0)]
theorem da_cX4_lost_1 : fw dt_cX4_lost_1 0 cX4_lost.data.toList = true := by decide +kernel
theorem dX4_lost_38 : decode cX4_lost 38 = .ok (.iload_n 1, 1) := fo_27 (fw_get da_cX4_lost_1 0 rfl)
theorem dX4_lost_39 : decode cX4_lost 39 = .ok (.iload_n 2, 1) := fo_28 (fw_get da_cX4_lost_1 1 rfl)
theorem dX4_lost_40 : decode cX4_lost 40 = .ok (.iload_n 3, 1) := fo_29 (fw_get da_cX4_lost_1 2 rfl)
theorem dX4_lost_41 : decode cX4_lost 41 = .ok (.invokevirtual 113, 3) := fo_182 (fw_get da_cX4_lost_1 3 rfl)
theorem dX4_lost_44 : decode cX4_lost 44 = .ok (.aload_n 0, 1) := fo_42 (fw_get da_cX4_lost_1 4 rfl)
theorem dX4_lost_45 : decode cX4_lost 45 = .ok (.getfield 35, 3) := fo_180 (fw_get da_cX4_lost_1 5 rfl)
theorem dX4_lost_48 : decode cX4_lost 48 = .ok (.iload_n 1, 1) := fo_27 (fw_get da_cX4_lost_1 6 rfl)
theorem dX4_lost_49 : decode cX4_lost 49 = .ok (.invokevirtual 183, 3) := fo_182 (fw_get da_cX4_lost_1 7 rfl)
theorem dX4_lost_52 : decode cX4_lost 52 = .ok (.isub, 1) := fo_100 (fw_get da_cX4_lost_1 8 rfl)
theorem dX4_lost_53 : decode cX4_lost 53 = .ok (.ireturn, 1) := fo_172 (fw_get da_cX4_lost_1 9 rfl)
theorem mi_wsX4_surely_wsX4_surely_r1 : ∀ w ∈ wsX4_surely_r1, w ∈ wsX4_surely := fun _ h => (List.mem_cons_of_mem _ (List.mem_append_left _ (List.mem_append_left _ (List.mem_append_left _ (List.mem_append_left _ (List.mem_append_left _ h))))))
theorem mi_wsX4_surely_wsX00 : ∀ w ∈ wsX00, w ∈ wsX4_surely := fun _ h => (List.mem_cons_of_mem _ (List.mem_append_left _ (List.mem_append_right _ h)))
set_option maxRecDepth 20000 in
theorem ggX4_surely_X0_hasRange : GoodIn wsX4_surely wsX0_hasRange := goodIn_m _ [(wsX4_surely_r1, [false, false, false, false, false, false, false, false, false, false, false, true, true]), (wsX00, [true, true])] (gm_c mi_wsX4_surely_wsX4_surely_r1 (gm_c mi_wsX4_surely_wsX00 gm_n)) rfl (by decide +kernel)
set_option maxRecDepth 20000 in
theorem gX4_surely_X0_hasRange : GoodIn wsX4_surely (wsV RX4 79 RX0 yX0_hasRange wsX0_hasRange) := goodIn_app (goodIn_m _ [(wsX4_surely_r1, [false, false, false, false, false, false, false, true, true, true, true])] (gm_c mi_wsX4_surely_wsX4_surely_r1 gm_n) rfl (by decide +kernel)) ggX4_surely_X0_hasRange
theorem mi_wsX4_surely_wsX4_surely_r2 : ∀ w ∈ wsX4_surely_r2, w ∈ wsX4_surely := fun _ h => (List.mem_cons_of_mem _ (List.mem_append_left _ (List.mem_append_left _ (List.mem_append_left _ (List.mem_append_left _ (List.mem_append_right _ (List.mem_append_left _ h)))))))
theorem mi_wsX4_surely_wsX4_surely_r3 : ∀ w ∈ wsX4_surely_r3, w ∈ wsX4_surely := fun _ h => (List.mem_cons_of_mem _ (List.mem_append_left _ (List.mem_append_left _ (List.mem_append_left _ (List.mem_append_left _ (List.mem_append_right _ (List.mem_append_right _ (List.mem_append_left _ h))))))))
theorem mi_wsX4_surely_wsX4_surely_r4 : ∀ w ∈ wsX4_surely_r4, w ∈ wsX4_surely := fun _ h => (List.mem_cons_of_mem _ (List.mem_append_left _ (List.mem_append_left _ (List.mem_append_left _ (List.mem_append_left _ (List.mem_append_right _ (List.mem_append_right _ (List.mem_append_right _ (List.mem_append_left _ h)))))))))
theorem mi_wsX4_surely_wsX4_surely_r5 : ∀ w ∈ wsX4_surely_r5, w ∈ wsX4_surely := fun _ h => (List.mem_cons_of_mem _ (List.mem_append_left _ (List.mem_append_left _ (List.mem_append_left _ (List.mem_append_left _ (List.mem_append_right _ (List.mem_append_right _ (List.mem_append_right _ (List.mem_append_right _ h)))))))))
theorem mi_wsX4_surely_wsX40 : ∀ w ∈ wsX40, w ∈ wsX4_surely := fun _ h => (List.mem_cons_of_mem _ (List.mem_append_left _ (List.mem_append_left _ (List.mem_append_left _ (List.mem_append_right _ h)))))
theorem mi_wsX4_surely_wsX20 : ∀ w ∈ wsX20, w ∈ wsX4_surely := fun _ h => (List.mem_cons_of_mem _ (List.mem_append_right _ h))
theorem mi_wsX4_surely_wsX30 : ∀ w ∈ wsX30, w ∈ wsX4_surely := fun _ h => (List.mem_cons_of_mem _ (List.mem_append_left _ (List.mem_append_left _ (List.mem_append_right _ h))))
set_option maxRecDepth 20000 in
theorem ggX4_surely_X4_laidTree : GoodIn wsX4_surely wsX4_laidTree := goodIn_m _ [(wsX4_surely_r1, [false, false, false, false, false, false, false, false, false, false, false, false, false, false, false, false, false, true, true, true, true, true]), (wsX4_surely_r1, [true, false, false, false, false, false, false, false, false, false, false, false, false, false, false, false, false, false, false, false, false, false, true, true]), (wsX4_surely_r2, [true, true, true, true, true, true, true, true, true, true, true, true, true, true, true, true, true, true, true, true, true, true, true, true]), (wsX4_surely_r3, [true, true, true, true, true, true, true, true, true, true, true, true, true, true, true, true, true, true, true, true, true, true, true, true]), (wsX4_surely_r4, [true, true, true, true, true, true, true, true, true, true, true, true, true, true, true, true, true, true, true, true, true, true, true, true]), (wsX4_surely_r5, [true, true, true, true, true, true, true, true, true, true, true, true]), (wsX40, [true, true, true, true, true, true, true, true, true]), (wsX20, [true, true, true, true, true, true, true, true, true, true, true]), (wsX00, [true, true]), (wsX30, [true, true, true, true, true])] (gm_c mi_wsX4_surely_wsX4_surely_r1 (gm_c mi_wsX4_surely_wsX4_surely_r1 (gm_c mi_wsX4_surely_wsX4_surely_r2 (gm_c mi_wsX4_surely_wsX4_surely_r3 (gm_c mi_wsX4_surely_wsX4_surely_r4 (gm_c mi_wsX4_surely_wsX4_surely_r5 (gm_c mi_wsX4_surely_wsX40 (gm_c mi_wsX4_surely_wsX20 (gm_c mi_wsX4_surely_wsX00 (gm_c mi_wsX4_surely_wsX30 gm_n)))))))))) rfl (by decide +kernel)
set_option maxRecDepth 20000 in
theorem gX4_surely_X4_laidTree : GoodIn wsX4_surely (wsV RX4 71 RX4 yX4_laidTree wsX4_laidTree) := goodIn_app (goodIn_m _ [(wsX4_surely_r1, [false, false, false, false, false, false, false, false, false, false, false, false, false, true, true, true, true])] (gm_c mi_wsX4_surely_wsX4_surely_r1 gm_n) rfl (by decide +kernel)) ggX4_surely_X4_laidTree
set_option maxRecDepth 20000 in
theorem ggX4_surely_X2_gather : GoodIn wsX4_surely wsX2_gather := goodIn_m _ [(wsX4_surely_r5, [false, false, false, false, false, false, false, false, false, false, false, false, false, false, false, true]), (wsX4_surely_r2, [false, false, false, false, false, false, true, false, true]), (wsX4_surely_r3, [false, false, false, true, true, true, true, true, true, true, true, true]), (wsX4_surely_r5, [false, false, false, false, false, false, false, false, false, false, false, false, false, false, false, false, true, true, true]), (wsX4_surely_r2, [false, false, true]), (wsX4_surely_r5, [false, false, false, false, false, false, false, false, false, false, false, false, false, false, false, false, false, false, false, true]), (wsX4_surely_r2, [false, false, false, false, false, false, false, true]), (wsX4_surely_r3, [false, false, false, false, false, false, false, false, false, false, false, false, false, false, false, false, false, false, true, true, true, true, true, true]), (wsX4_surely_r4, [true, true, true]), (wsX4_surely_r3, [false, false, false, false, false, false, false, false, false, false, false, false, true, true, true, true, true, true]), (wsX4_surely_r4, [false, false, false, true, true, true, true, true, true, true, true, true, true, true, true, true, true, true, true]), (wsX20, [true, true, true, true, true, true, true, true, true, true, true]), (wsX30, [true, true, true, true, true])] (gm_c mi_wsX4_surely_wsX4_surely_r5 (gm_c mi_wsX4_surely_wsX4_surely_r2 (gm_c mi_wsX4_surely_wsX4_surely_r3 (gm_c mi_wsX4_surely_wsX4_surely_r5 (gm_c mi_wsX4_surely_wsX4_surely_r2 (gm_c mi_wsX4_surely_wsX4_surely_r5 (gm_c mi_wsX4_surely_wsX4_surely_r2 (gm_c mi_wsX4_surely_wsX4_surely_r3 (gm_c mi_wsX4_surely_wsX4_surely_r4 (gm_c mi_wsX4_surely_wsX4_surely_r3 (gm_c mi_wsX4_surely_wsX4_surely_r4 (gm_c mi_wsX4_surely_wsX20 (gm_c mi_wsX4_surely_wsX30 gm_n))))))))))))) rfl (by decide +kernel)
set_option maxRecDepth 20000 in
theorem gX4_surely_X2_gather : GoodIn wsX4_surely (wsV RX4 170 RX2 yX2_gather wsX2_gather) := goodIn_app (goodIn_m _ [(wsX4_surely_r5, [false, false, false, false, false, false, false, false, false, false, false, false, true, true, true]), (wsX4_surely_r2, [false, false, true])] (gm_c mi_wsX4_surely_wsX4_surely_r5 (gm_c mi_wsX4_surely_wsX4_surely_r2 gm_n)) rfl (by decide +kernel)) ggX4_surely_X2_gather
def dt_cX4_surely_0 : List (Nat × Nat × Nat × Nat) := [(0, 42, 0, 0), (1, 180, 2, 12), (4, 27, 0, 0), (5, 28, 0, 0), (6, 182, 2, 79), (9, 154, 2, 6), (12, 18, 1, 102), (14, 172, 0, 0), (15, 42, 0, 0), (16, 182, 2, 71), (19, 42, 0, 0), (20, 180, 2, 35), (23, 27, 0, 0), (24, 28, 0, 0), (25, 182, 2, 170), (28, 42, 0, 0), (29, 180, 2, 35), (32, 180, 2, 174), (35, 154, 2, 6), (38, 18, 1, 102)]
theorem da_cX4_surely_0 : fw dt_cX4_surely_0 0 cX4_surely.data.toList = true := by decide +kernel
theorem dX4_surely_0 : decode cX4_surely 0 = .ok (.aload_n 0, 1) := fo_42 (fw_get da_cX4_surely_0 0 rfl)
theorem dX4_surely_1 : decode cX4_surely 1 = .ok (.getfield 12, 3) := fo_180 (fw_get da_cX4_surely_0 1 rfl)
theorem dX4_surely_4 : decode cX4_surely 4 = .ok (.iload_n 1, 1) := fo_27 (fw_get da_cX4_surely_0 2 rfl)
theorem dX4_surely_5 : decode cX4_surely 5 = .ok (.iload_n 2, 1) := fo_28 (fw_get da_cX4_surely_0 3 rfl)
theorem dX4_surely_6 : decode cX4_surely 6 = .ok (.invokevirtual 79, 3) := fo_182 (fw_get da_cX4_surely_0 4 rfl)
theorem dX4_surely_9 : decode cX4_surely 9 = .ok (.ifCond .ne 6, 3) := fo_154 (fw_get da_cX4_surely_0 5 rfl) (by decide +kernel)
theorem dX4_surely_12 : decode cX4_surely 12 = .ok (.ldc 102, 2) := fo_18 (fw_get da_cX4_surely_0 6 rfl)
theorem dX4_surely_14 : decode cX4_surely 14 = .ok (.ireturn, 1) := fo_172 (fw_get da_cX4_surely_0 7 rfl)
theorem dX4_surely_15 : decode cX4_surely 15 = .ok (.aload_n 0, 1) := fo_42 (fw_get da_cX4_surely_0 8 rfl)
theorem dX4_surely_16 : decode cX4_surely 16 = .ok (.invokevirtual 71, 3) := fo_182 (fw_get da_cX4_surely_0 9 rfl)
theorem dX4_surely_19 : decode cX4_surely 19 = .ok (.aload_n 0, 1) := fo_42 (fw_get da_cX4_surely_0 10 rfl)
theorem dX4_surely_20 : decode cX4_surely 20 = .ok (.getfield 35, 3) := fo_180 (fw_get da_cX4_surely_0 11 rfl)
theorem dX4_surely_23 : decode cX4_surely 23 = .ok (.iload_n 1, 1) := fo_27 (fw_get da_cX4_surely_0 12 rfl)
theorem dX4_surely_24 : decode cX4_surely 24 = .ok (.iload_n 2, 1) := fo_28 (fw_get da_cX4_surely_0 13 rfl)
theorem dX4_surely_25 : decode cX4_surely 25 = .ok (.invokevirtual 170, 3) := fo_182 (fw_get da_cX4_surely_0 14 rfl)
theorem dX4_surely_28 : decode cX4_surely 28 = .ok (.aload_n 0, 1) := fo_42 (fw_get da_cX4_surely_0 15 rfl)
theorem dX4_surely_29 : decode cX4_surely 29 = .ok (.getfield 35, 3) := fo_180 (fw_get da_cX4_surely_0 16 rfl)
theorem dX4_surely_32 : decode cX4_surely 32 = .ok (.getfield 174, 3) := fo_180 (fw_get da_cX4_surely_0 17 rfl)
theorem dX4_surely_35 : decode cX4_surely 35 = .ok (.ifCond .ne 6, 3) := fo_154 (fw_get da_cX4_surely_0 18 rfl) (by decide +kernel)
theorem dX4_surely_38 : decode cX4_surely 38 = .ok (.ldc 102, 2) := fo_18 (fw_get da_cX4_surely_0 19 rfl)
def dt_cX4_surely_1 : List (Nat × Nat × Nat × Nat) := [(40, 172, 0, 0), (41, 42, 0, 0), (42, 180, 2, 35), (45, 180, 2, 174), (48, 4, 0, 0), (49, 164, 2, 15), (52, 42, 0, 0), (53, 180, 2, 35), (56, 180, 2, 136), (59, 4, 0, 0), (60, 46, 0, 0), (61, 167, 2, 4), (64, 3, 0, 0), (65, 62, 0, 0), (66, 42, 0, 0), (67, 180, 2, 35), (70, 180, 2, 136), (73, 3, 0, 0), (74, 46, 0, 0), (75, 29, 0, 0)]
theorem da_cX4_surely_1 : fw dt_cX4_surely_1 0 cX4_surely.data.toList = true := by decide +kernel
theorem dX4_surely_40 : decode cX4_surely 40 = .ok (.ireturn, 1) := fo_172 (fw_get da_cX4_surely_1 0 rfl)
theorem dX4_surely_41 : decode cX4_surely 41 = .ok (.aload_n 0, 1) := fo_42 (fw_get da_cX4_surely_1 1 rfl)
theorem dX4_surely_42 : decode cX4_surely 42 = .ok (.getfield 35, 3) := fo_180 (fw_get da_cX4_surely_1 2 rfl)
theorem dX4_surely_45 : decode cX4_surely 45 = .ok (.getfield 174, 3) := fo_180 (fw_get da_cX4_surely_1 3 rfl)
theorem dX4_surely_48 : decode cX4_surely 48 = .ok (.iconst 1, 1) := fo_4 (fw_get da_cX4_surely_1 4 rfl)
theorem dX4_surely_49 : decode cX4_surely 49 = .ok (.if_icmp .le 15, 3) := fo_164 (fw_get da_cX4_surely_1 5 rfl) (by decide +kernel)
theorem dX4_surely_52 : decode cX4_surely 52 = .ok (.aload_n 0, 1) := fo_42 (fw_get da_cX4_surely_1 6 rfl)
theorem dX4_surely_53 : decode cX4_surely 53 = .ok (.getfield 35, 3) := fo_180 (fw_get da_cX4_surely_1 7 rfl)
theorem dX4_surely_56 : decode cX4_surely 56 = .ok (.getfield 136, 3) := fo_180 (fw_get da_cX4_surely_1 8 rfl)
theorem dX4_surely_59 : decode cX4_surely 59 = .ok (.iconst 1, 1) := fo_4 (fw_get da_cX4_surely_1 9 rfl)
theorem dX4_surely_60 : decode cX4_surely 60 = .ok (.iaload, 1) := fo_46 (fw_get da_cX4_surely_1 10 rfl)
theorem dX4_surely_61 : decode cX4_surely 61 = .ok (.goto 4, 3) := fo_167 (fw_get da_cX4_surely_1 11 rfl) (by decide +kernel)
theorem dX4_surely_64 : decode cX4_surely 64 = .ok (.iconst 0, 1) := fo_3 (fw_get da_cX4_surely_1 12 rfl)
theorem dX4_surely_65 : decode cX4_surely 65 = .ok (.istore_n 3, 1) := fo_62 (fw_get da_cX4_surely_1 13 rfl)
theorem dX4_surely_66 : decode cX4_surely 66 = .ok (.aload_n 0, 1) := fo_42 (fw_get da_cX4_surely_1 14 rfl)
theorem dX4_surely_67 : decode cX4_surely 67 = .ok (.getfield 35, 3) := fo_180 (fw_get da_cX4_surely_1 15 rfl)
theorem dX4_surely_70 : decode cX4_surely 70 = .ok (.getfield 136, 3) := fo_180 (fw_get da_cX4_surely_1 16 rfl)
theorem dX4_surely_73 : decode cX4_surely 73 = .ok (.iconst 0, 1) := fo_3 (fw_get da_cX4_surely_1 17 rfl)
theorem dX4_surely_74 : decode cX4_surely 74 = .ok (.iaload, 1) := fo_46 (fw_get da_cX4_surely_1 18 rfl)
theorem dX4_surely_75 : decode cX4_surely 75 = .ok (.iload_n 3, 1) := fo_29 (fw_get da_cX4_surely_1 19 rfl)
def dt_cX4_surely_2 : List (Nat × Nat × Nat × Nat) := [(76, 42, 0, 0), (77, 180, 2, 35), (80, 180, 2, 180), (83, 96, 0, 0), (84, 164, 2, 15), (87, 42, 0, 0), (88, 180, 2, 35), (91, 180, 2, 133), (94, 3, 0, 0), (95, 46, 0, 0), (96, 167, 2, 5), (99, 18, 1, 102), (101, 172, 0, 0)]
theorem da_cX4_surely_2 : fw dt_cX4_surely_2 0 cX4_surely.data.toList = true := by decide +kernel
theorem dX4_surely_76 : decode cX4_surely 76 = .ok (.aload_n 0, 1) := fo_42 (fw_get da_cX4_surely_2 0 rfl)
theorem dX4_surely_77 : decode cX4_surely 77 = .ok (.getfield 35, 3) := fo_180 (fw_get da_cX4_surely_2 1 rfl)
theorem dX4_surely_80 : decode cX4_surely 80 = .ok (.getfield 180, 3) := fo_180 (fw_get da_cX4_surely_2 2 rfl)
theorem dX4_surely_83 : decode cX4_surely 83 = .ok (.iadd, 1) := fo_96 (fw_get da_cX4_surely_2 3 rfl)
theorem dX4_surely_84 : decode cX4_surely 84 = .ok (.if_icmp .le 15, 3) := fo_164 (fw_get da_cX4_surely_2 4 rfl) (by decide +kernel)
theorem dX4_surely_87 : decode cX4_surely 87 = .ok (.aload_n 0, 1) := fo_42 (fw_get da_cX4_surely_2 5 rfl)
theorem dX4_surely_88 : decode cX4_surely 88 = .ok (.getfield 35, 3) := fo_180 (fw_get da_cX4_surely_2 6 rfl)
theorem dX4_surely_91 : decode cX4_surely 91 = .ok (.getfield 133, 3) := fo_180 (fw_get da_cX4_surely_2 7 rfl)
theorem dX4_surely_94 : decode cX4_surely 94 = .ok (.iconst 0, 1) := fo_3 (fw_get da_cX4_surely_2 8 rfl)
theorem dX4_surely_95 : decode cX4_surely 95 = .ok (.iaload, 1) := fo_46 (fw_get da_cX4_surely_2 9 rfl)
theorem dX4_surely_96 : decode cX4_surely 96 = .ok (.goto 5, 3) := fo_167 (fw_get da_cX4_surely_2 10 rfl) (by decide +kernel)
theorem dX4_surely_99 : decode cX4_surely 99 = .ok (.ldc 102, 2) := fo_18 (fw_get da_cX4_surely_2 11 rfl)
theorem dX4_surely_101 : decode cX4_surely 101 = .ok (.ireturn, 1) := fo_172 (fw_get da_cX4_surely_2 12 rfl)
theorem mi_wsX4_heavy_wsX4_heavy_r1 : ∀ w ∈ wsX4_heavy_r1, w ∈ wsX4_heavy := fun _ h => (List.mem_cons_of_mem _ (List.mem_append_left _ (List.mem_append_left _ (List.mem_append_left _ (List.mem_append_left _ (List.mem_append_left _ h))))))
theorem mi_wsX4_heavy_wsX00 : ∀ w ∈ wsX00, w ∈ wsX4_heavy := fun _ h => (List.mem_cons_of_mem _ (List.mem_append_left _ (List.mem_append_right _ h)))
set_option maxRecDepth 20000 in
theorem ggX4_heavy_X0_hasRange : GoodIn wsX4_heavy wsX0_hasRange := goodIn_m _ [(wsX4_heavy_r1, [false, false, false, false, false, false, false, true, true]), (wsX00, [true, true])] (gm_c mi_wsX4_heavy_wsX4_heavy_r1 (gm_c mi_wsX4_heavy_wsX00 gm_n)) rfl (by decide +kernel)
set_option maxRecDepth 20000 in
theorem gX4_heavy_X0_hasRange : GoodIn wsX4_heavy (wsV RX4 79 RX0 yX0_hasRange wsX0_hasRange) := goodIn_app (goodIn_m _ [(wsX4_heavy_r1, [false, false, false, true, true, true, true])] (gm_c mi_wsX4_heavy_wsX4_heavy_r1 gm_n) rfl (by decide +kernel)) ggX4_heavy_X0_hasRange
set_option maxRecDepth 20000 in
theorem ggX4_heavy_X4_isShare : GoodIn wsX4_heavy wsX4_isShare := goodIn_m _ [(wsX4_heavy_r1, [false, false, false, false, false, false, false, false, false, false, false, false, true])] (gm_c mi_wsX4_heavy_wsX4_heavy_r1 gm_n) rfl (by decide +kernel)
set_option maxRecDepth 20000 in
theorem gX4_heavy_X4_isShare : GoodIn wsX4_heavy (va_wsS RX4 186 yX4_isShare wsX4_isShare) := goodIn_app (goodIn_m _ [(wsX4_heavy_r1, [false, false, false, false, false, false, false, false, false, true, true, true])] (gm_c mi_wsX4_heavy_wsX4_heavy_r1 gm_n) rfl (by decide +kernel)) ggX4_heavy_X4_isShare
theorem mi_wsX4_heavy_wsX40 : ∀ w ∈ wsX40, w ∈ wsX4_heavy := fun _ h => (List.mem_cons_of_mem _ (List.mem_append_left _ (List.mem_append_left _ (List.mem_append_left _ (List.mem_append_right _ h)))))
set_option maxRecDepth 20000 in
theorem ggX4_heavy_X4_isEnough : GoodIn wsX4_heavy wsX4_isEnough := goodIn_m _ [(wsX4_heavy_r1, [false, false, false, false, false, false, false, false, false, false, false, false, false, false, false, false, true, true]), (wsX40, [true, true, true, true, true, true, true, true, true])] (gm_c mi_wsX4_heavy_wsX4_heavy_r1 (gm_c mi_wsX4_heavy_wsX40 gm_n)) rfl (by decide +kernel)
set_option maxRecDepth 20000 in
theorem gX4_heavy_X4_isEnough : GoodIn wsX4_heavy (wsV RX4 189 RX4 yX4_isEnough wsX4_isEnough) := goodIn_app (goodIn_m _ [(wsX4_heavy_r1, [false, false, false, false, false, false, false, false, false, false, false, false, false, true, true, true]), (wsX4_heavy_r1, [false, false, false, false, false, false, false, false, false, false, false, true])] (gm_c mi_wsX4_heavy_wsX4_heavy_r1 (gm_c mi_wsX4_heavy_wsX4_heavy_r1 gm_n)) rfl (by decide +kernel)) ggX4_heavy_X4_isEnough
theorem mi_wsX4_heavy_wsX4_heavy_r2 : ∀ w ∈ wsX4_heavy_r2, w ∈ wsX4_heavy := fun _ h => (List.mem_cons_of_mem _ (List.mem_append_left _ (List.mem_append_left _ (List.mem_append_left _ (List.mem_append_left _ (List.mem_append_right _ (List.mem_append_left _ h)))))))
theorem mi_wsX4_heavy_wsX4_heavy_r3 : ∀ w ∈ wsX4_heavy_r3, w ∈ wsX4_heavy := fun _ h => (List.mem_cons_of_mem _ (List.mem_append_left _ (List.mem_append_left _ (List.mem_append_left _ (List.mem_append_left _ (List.mem_append_right _ (List.mem_append_right _ (List.mem_append_left _ h))))))))
theorem mi_wsX4_heavy_wsX4_heavy_r4 : ∀ w ∈ wsX4_heavy_r4, w ∈ wsX4_heavy := fun _ h => (List.mem_cons_of_mem _ (List.mem_append_left _ (List.mem_append_left _ (List.mem_append_left _ (List.mem_append_left _ (List.mem_append_right _ (List.mem_append_right _ (List.mem_append_right _ (List.mem_append_left _ h)))))))))
theorem mi_wsX4_heavy_wsX4_heavy_r5 : ∀ w ∈ wsX4_heavy_r5, w ∈ wsX4_heavy := fun _ h => (List.mem_cons_of_mem _ (List.mem_append_left _ (List.mem_append_left _ (List.mem_append_left _ (List.mem_append_left _ (List.mem_append_right _ (List.mem_append_right _ (List.mem_append_right _ (List.mem_append_right _ (List.mem_append_left _ h))))))))))
theorem mi_wsX4_heavy_wsX20 : ∀ w ∈ wsX20, w ∈ wsX4_heavy := fun _ h => (List.mem_cons_of_mem _ (List.mem_append_right _ h))
theorem mi_wsX4_heavy_wsX30 : ∀ w ∈ wsX30, w ∈ wsX4_heavy := fun _ h => (List.mem_cons_of_mem _ (List.mem_append_left _ (List.mem_append_left _ (List.mem_append_right _ h))))
set_option maxRecDepth 20000 in
theorem ggX4_heavy_X4_laidTree : GoodIn wsX4_heavy wsX4_laidTree := goodIn_m _ [(wsX4_heavy_r1, [false, false, false, false, false, false, false, false, false, false, false, false, false, false, false, false, false, false, false, false, false, true, true, true]), (wsX4_heavy_r1, [false, false, false, false, false, false, false, false, false, false, false, false, false, false, false, false, false, true]), (wsX4_heavy_r2, [true]), (wsX4_heavy_r1, [true]), (wsX4_heavy_r2, [false, true, true, true, true, true, true, true, true, true, true, true, true, true, true, true, true, true, true, true, true, true, true, true]), (wsX4_heavy_r3, [true, true, true, true, true, true, true, true, true, true, true, true, true, true, true, true, true, true, true, true, true, true, true, true]), (wsX4_heavy_r4, [true, true, true, true, true, true, true, true, true, true, true, true, true, true, true, true, true, true, true, true, true, true, true, true]), (wsX4_heavy_r5, [true, true, true, true, true, true, true, true, true, true, true, true, true, true, true]), (wsX40, [true, true, true, true, true, true, true, true, true]), (wsX20, [true, true, true, true, true, true, true, true, true, true, true]), (wsX00, [true, true]), (wsX30, [true, true, true, true, true])] (gm_c mi_wsX4_heavy_wsX4_heavy_r1 (gm_c mi_wsX4_heavy_wsX4_heavy_r1 (gm_c mi_wsX4_heavy_wsX4_heavy_r2 (gm_c mi_wsX4_heavy_wsX4_heavy_r1 (gm_c mi_wsX4_heavy_wsX4_heavy_r2 (gm_c mi_wsX4_heavy_wsX4_heavy_r3 (gm_c mi_wsX4_heavy_wsX4_heavy_r4 (gm_c mi_wsX4_heavy_wsX4_heavy_r5 (gm_c mi_wsX4_heavy_wsX40 (gm_c mi_wsX4_heavy_wsX20 (gm_c mi_wsX4_heavy_wsX00 (gm_c mi_wsX4_heavy_wsX30 gm_n)))))))))))) rfl (by decide +kernel)
set_option maxRecDepth 20000 in
theorem gX4_heavy_X4_laidTree : GoodIn wsX4_heavy (wsV RX4 71 RX4 yX4_laidTree wsX4_laidTree) := goodIn_app (goodIn_m _ [(wsX4_heavy_r1, [false, false, false, false, false, false, false, false, false, false, false, false, false, false, false, false, false, false, true, true, true]), (wsX4_heavy_r1, [false, false, false, false, false, false, false, false, false, false, false, true])] (gm_c mi_wsX4_heavy_wsX4_heavy_r1 (gm_c mi_wsX4_heavy_wsX4_heavy_r1 gm_n)) rfl (by decide +kernel)) ggX4_heavy_X4_laidTree
theorem mi_wsX4_heavy_wsX4_heavy_r6 : ∀ w ∈ wsX4_heavy_r6, w ∈ wsX4_heavy := fun _ h => (List.mem_cons_of_mem _ (List.mem_append_left _ (List.mem_append_left _ (List.mem_append_left _ (List.mem_append_left _ (List.mem_append_right _ (List.mem_append_right _ (List.mem_append_right _ (List.mem_append_right _ (List.mem_append_right _ h))))))))))
set_option maxRecDepth 20000 in
theorem ggX4_heavy_X4_gatherHeavy : GoodIn wsX4_heavy wsX4_gatherHeavy := goodIn_m _ [(wsX4_heavy_r5, [false, false, false, false, false, false, false, false, false, false, false, false, false, false, false, false, false, false, true]), (wsX4_heavy_r1, [false, true, true]), (wsX4_heavy_r5, [false, false, false, false, false, false, false, false, false, false, false, false, false, false, false, false, false, false, false, true]), (wsX4_heavy_r1, [true]), (wsX4_heavy_r5, [false, false, false, false, false, false, false, false, false, false, false, false, false, false, false, false, false, false, false, false, true, true, true, true]), (wsX4_heavy_r2, [false, false, false, false, false, true]), (wsX4_heavy_r6, [true]), (wsX4_heavy_r2, [false, false, false, false, false, false, false, false, false, true, false, true]), (wsX4_heavy_r3, [false, false, false, false, false, false, true, true, true, true, true, true, true, true, true]), (wsX4_heavy_r6, [false, true, true, true, true]), (wsX4_heavy_r2, [false, false, false, false, false, false, false, false, false, false, true]), (wsX4_heavy_r3, [false, false, false, false, false, false, false, false, false, false, false, false, false, false, false, false, false, false, false, false, false, true, true, true]), (wsX4_heavy_r4, [true, true, true, true, true, true]), (wsX4_heavy_r3, [false, false, false, false, false, false, false, false, false, false, false, false, false, false, false, true, true, true, true, true, true]), (wsX4_heavy_r4, [false, false, false, false, false, false, true, true, true, true, true, true, true, true, true, true, true, true, true, true, true, true]), (wsX4_heavy_r6, [false, false, false, false, false, true, true, true]), (wsX4_heavy_r1, [false, false, false, false, false, false, true]), (wsX4_heavy_r6, [false, false, false, false, false, false, false, false, true, true, true, true, true, true, true]), (wsX4_heavy_r1, [false, false, false, false, false, false, false, false, false, false, false, true]), (wsX4_heavy_r6, [false, false, false, false, false, false, false, false, false, false, false, false, false, false, false, true]), (wsX40, [true, true, true, true, true, true, true, true, true]), (wsX30, [true, true, true, true, true]), (wsX20, [true, true, true, true, true, true, true, true, true, true, true]), (wsX00, [true, true])] (gm_c mi_wsX4_heavy_wsX4_heavy_r5 (gm_c mi_wsX4_heavy_wsX4_heavy_r1 (gm_c mi_wsX4_heavy_wsX4_heavy_r5 (gm_c mi_wsX4_heavy_wsX4_heavy_r1 (gm_c mi_wsX4_heavy_wsX4_heavy_r5 (gm_c mi_wsX4_heavy_wsX4_heavy_r2 (gm_c mi_wsX4_heavy_wsX4_heavy_r6 (gm_c mi_wsX4_heavy_wsX4_heavy_r2 (gm_c mi_wsX4_heavy_wsX4_heavy_r3 (gm_c mi_wsX4_heavy_wsX4_heavy_r6 (gm_c mi_wsX4_heavy_wsX4_heavy_r2 (gm_c mi_wsX4_heavy_wsX4_heavy_r3 (gm_c mi_wsX4_heavy_wsX4_heavy_r4 (gm_c mi_wsX4_heavy_wsX4_heavy_r3 (gm_c mi_wsX4_heavy_wsX4_heavy_r4 (gm_c mi_wsX4_heavy_wsX4_heavy_r6 (gm_c mi_wsX4_heavy_wsX4_heavy_r1 (gm_c mi_wsX4_heavy_wsX4_heavy_r6 (gm_c mi_wsX4_heavy_wsX4_heavy_r1 (gm_c mi_wsX4_heavy_wsX4_heavy_r6 (gm_c mi_wsX4_heavy_wsX40 (gm_c mi_wsX4_heavy_wsX30 (gm_c mi_wsX4_heavy_wsX20 (gm_c mi_wsX4_heavy_wsX00 gm_n)))))))))))))))))))))))) rfl (by decide +kernel)
set_option maxRecDepth 20000 in
theorem gX4_heavy_X4_gatherHeavy : GoodIn wsX4_heavy (wsV RX4 192 RX4 yX4_gatherHeavy wsX4_gatherHeavy) := goodIn_app (goodIn_m _ [(wsX4_heavy_r5, [false, false, false, false, false, false, false, false, false, false, false, false, false, false, false, true, true, true]), (wsX4_heavy_r1, [false, false, false, false, false, false, false, false, false, false, false, true])] (gm_c mi_wsX4_heavy_wsX4_heavy_r5 (gm_c mi_wsX4_heavy_wsX4_heavy_r1 gm_n)) rfl (by decide +kernel)) ggX4_heavy_X4_gatherHeavy
def dt_cX4_heavy_0 : List (Nat × Nat × Nat × Nat) := [(0, 42, 0, 0), (1, 180, 2, 12), (4, 27, 0, 0), (5, 28, 0, 0), (6, 182, 2, 79), (9, 153, 2, 12), (12, 29, 0, 0), (13, 21, 1, 4), (15, 184, 2, 186), (18, 154, 2, 5), (21, 2, 0, 0), (22, 172, 0, 0), (23, 42, 0, 0), (24, 29, 0, 0), (25, 21, 1, 4), (27, 182, 2, 189), (30, 154, 2, 6), (33, 16, 1, 254), (35, 172, 0, 0), (36, 42, 0, 0)]
theorem da_cX4_heavy_0 : fw dt_cX4_heavy_0 0 cX4_heavy.data.toList = true := by decide +kernel
theorem dX4_heavy_0 : decode cX4_heavy 0 = .ok (.aload_n 0, 1) := fo_42 (fw_get da_cX4_heavy_0 0 rfl)
theorem dX4_heavy_1 : decode cX4_heavy 1 = .ok (.getfield 12, 3) := fo_180 (fw_get da_cX4_heavy_0 1 rfl)
theorem dX4_heavy_4 : decode cX4_heavy 4 = .ok (.iload_n 1, 1) := fo_27 (fw_get da_cX4_heavy_0 2 rfl)
theorem dX4_heavy_5 : decode cX4_heavy 5 = .ok (.iload_n 2, 1) := fo_28 (fw_get da_cX4_heavy_0 3 rfl)
theorem dX4_heavy_6 : decode cX4_heavy 6 = .ok (.invokevirtual 79, 3) := fo_182 (fw_get da_cX4_heavy_0 4 rfl)
theorem dX4_heavy_9 : decode cX4_heavy 9 = .ok (.ifCond .eq 12, 3) := fo_153 (fw_get da_cX4_heavy_0 5 rfl) (by decide +kernel)
theorem dX4_heavy_12 : decode cX4_heavy 12 = .ok (.iload_n 3, 1) := fo_29 (fw_get da_cX4_heavy_0 6 rfl)
theorem dX4_heavy_13 : decode cX4_heavy 13 = .ok (.iload 4, 2) := fo_21 (fw_get da_cX4_heavy_0 7 rfl)
theorem dX4_heavy_15 : decode cX4_heavy 15 = .ok (.invokestatic 186, 3) := fo_184 (fw_get da_cX4_heavy_0 8 rfl)
theorem dX4_heavy_18 : decode cX4_heavy 18 = .ok (.ifCond .ne 5, 3) := fo_154 (fw_get da_cX4_heavy_0 9 rfl) (by decide +kernel)
theorem dX4_heavy_21 : decode cX4_heavy 21 = .ok (.iconst (-1), 1) := fo_2 (fw_get da_cX4_heavy_0 10 rfl)
theorem dX4_heavy_22 : decode cX4_heavy 22 = .ok (.ireturn, 1) := fo_172 (fw_get da_cX4_heavy_0 11 rfl)
theorem dX4_heavy_23 : decode cX4_heavy 23 = .ok (.aload_n 0, 1) := fo_42 (fw_get da_cX4_heavy_0 12 rfl)
theorem dX4_heavy_24 : decode cX4_heavy 24 = .ok (.iload_n 3, 1) := fo_29 (fw_get da_cX4_heavy_0 13 rfl)
theorem dX4_heavy_25 : decode cX4_heavy 25 = .ok (.iload 4, 2) := fo_21 (fw_get da_cX4_heavy_0 14 rfl)
theorem dX4_heavy_27 : decode cX4_heavy 27 = .ok (.invokevirtual 189, 3) := fo_182 (fw_get da_cX4_heavy_0 15 rfl)
theorem dX4_heavy_30 : decode cX4_heavy 30 = .ok (.ifCond .ne 6, 3) := fo_154 (fw_get da_cX4_heavy_0 16 rfl) (by decide +kernel)
theorem dX4_heavy_33 : decode cX4_heavy 33 = .ok (.bipush (-2), 2) := fo_16 (fw_get da_cX4_heavy_0 17 rfl) (by decide +kernel)
theorem dX4_heavy_35 : decode cX4_heavy 35 = .ok (.ireturn, 1) := fo_172 (fw_get da_cX4_heavy_0 18 rfl)
theorem dX4_heavy_36 : decode cX4_heavy 36 = .ok (.aload_n 0, 1) := fo_42 (fw_get da_cX4_heavy_0 19 rfl)
def dt_cX4_heavy_1 : List (Nat × Nat × Nat × Nat) := [(37, 42, 0, 0), (38, 182, 2, 71), (41, 27, 0, 0), (42, 28, 0, 0), (43, 29, 0, 0), (44, 21, 1, 4), (46, 182, 2, 192), (49, 42, 0, 0), (50, 180, 2, 35), (53, 180, 2, 174), (56, 172, 0, 0)]
theorem da_cX4_heavy_1 : fw dt_cX4_heavy_1 0 cX4_heavy.data.toList = true := by decide +kernel
theorem dX4_heavy_37 : decode cX4_heavy 37 = .ok (.aload_n 0, 1) := fo_42 (fw_get da_cX4_heavy_1 0 rfl)
theorem dX4_heavy_38 : decode cX4_heavy 38 = .ok (.invokevirtual 71, 3) := fo_182 (fw_get da_cX4_heavy_1 1 rfl)
theorem dX4_heavy_41 : decode cX4_heavy 41 = .ok (.iload_n 1, 1) := fo_27 (fw_get da_cX4_heavy_1 2 rfl)
theorem dX4_heavy_42 : decode cX4_heavy 42 = .ok (.iload_n 2, 1) := fo_28 (fw_get da_cX4_heavy_1 3 rfl)
theorem dX4_heavy_43 : decode cX4_heavy 43 = .ok (.iload_n 3, 1) := fo_29 (fw_get da_cX4_heavy_1 4 rfl)
theorem dX4_heavy_44 : decode cX4_heavy 44 = .ok (.iload 4, 2) := fo_21 (fw_get da_cX4_heavy_1 5 rfl)
theorem dX4_heavy_46 : decode cX4_heavy 46 = .ok (.invokevirtual 192, 3) := fo_182 (fw_get da_cX4_heavy_1 6 rfl)
theorem dX4_heavy_49 : decode cX4_heavy 49 = .ok (.aload_n 0, 1) := fo_42 (fw_get da_cX4_heavy_1 7 rfl)
theorem dX4_heavy_50 : decode cX4_heavy 50 = .ok (.getfield 35, 3) := fo_180 (fw_get da_cX4_heavy_1 8 rfl)
theorem dX4_heavy_53 : decode cX4_heavy 53 = .ok (.getfield 174, 3) := fo_180 (fw_get da_cX4_heavy_1 9 rfl)
theorem dX4_heavy_56 : decode cX4_heavy 56 = .ok (.ireturn, 1) := fo_172 (fw_get da_cX4_heavy_1 10 rfl)
theorem mi_wsX4_failed_wsX4_failed_r1 : ∀ w ∈ wsX4_failed_r1, w ∈ wsX4_failed := fun _ h => (List.mem_cons_of_mem _ (List.mem_append_left _ (List.mem_append_left _ (List.mem_append_left _ (List.mem_append_left _ (List.mem_append_left _ h))))))
theorem mi_wsX4_failed_wsX00 : ∀ w ∈ wsX00, w ∈ wsX4_failed := fun _ h => (List.mem_cons_of_mem _ (List.mem_append_left _ (List.mem_append_right _ h)))
set_option maxRecDepth 20000 in
theorem ggX4_failed_X0_hasRange : GoodIn wsX4_failed wsX0_hasRange := goodIn_m _ [(wsX4_failed_r1, [false, false, false, false, false, false, false, true, true]), (wsX00, [true, true])] (gm_c mi_wsX4_failed_wsX4_failed_r1 (gm_c mi_wsX4_failed_wsX00 gm_n)) rfl (by decide +kernel)
set_option maxRecDepth 20000 in
theorem gX4_failed_X0_hasRange : GoodIn wsX4_failed (wsV RX4 79 RX0 yX0_hasRange wsX0_hasRange) := goodIn_app (goodIn_m _ [(wsX4_failed_r1, [false, false, false, true, true, true, true])] (gm_c mi_wsX4_failed_wsX4_failed_r1 gm_n) rfl (by decide +kernel)) ggX4_failed_X0_hasRange
set_option maxRecDepth 20000 in
theorem ggX4_failed_X4_isShare : GoodIn wsX4_failed wsX4_isShare := goodIn_m _ [(wsX4_failed_r1, [false, false, false, false, false, false, false, false, false, false, false, false, true])] (gm_c mi_wsX4_failed_wsX4_failed_r1 gm_n) rfl (by decide +kernel)
set_option maxRecDepth 20000 in
theorem gX4_failed_X4_isShare : GoodIn wsX4_failed (va_wsS RX4 186 yX4_isShare wsX4_isShare) := goodIn_app (goodIn_m _ [(wsX4_failed_r1, [false, false, false, false, false, false, false, false, false, true, true, true])] (gm_c mi_wsX4_failed_wsX4_failed_r1 gm_n) rfl (by decide +kernel)) ggX4_failed_X4_isShare
theorem mi_wsX4_failed_wsX40 : ∀ w ∈ wsX40, w ∈ wsX4_failed := fun _ h => (List.mem_cons_of_mem _ (List.mem_append_left _ (List.mem_append_left _ (List.mem_append_left _ (List.mem_append_right _ h)))))
set_option maxRecDepth 20000 in
theorem ggX4_failed_X4_isEnough : GoodIn wsX4_failed wsX4_isEnough := goodIn_m _ [(wsX4_failed_r1, [false, false, false, false, false, false, false, false, false, false, false, false, false, false, false, false, true, true]), (wsX40, [true, true, true, true, true, true, true, true, true])] (gm_c mi_wsX4_failed_wsX4_failed_r1 (gm_c mi_wsX4_failed_wsX40 gm_n)) rfl (by decide +kernel)
set_option maxRecDepth 20000 in
theorem gX4_failed_X4_isEnough : GoodIn wsX4_failed (wsV RX4 189 RX4 yX4_isEnough wsX4_isEnough) := goodIn_app (goodIn_m _ [(wsX4_failed_r1, [false, false, false, false, false, false, false, false, false, false, false, false, false, true, true, true]), (wsX4_failed_r1, [false, false, false, false, false, false, false, false, false, false, false, true])] (gm_c mi_wsX4_failed_wsX4_failed_r1 (gm_c mi_wsX4_failed_wsX4_failed_r1 gm_n)) rfl (by decide +kernel)) ggX4_failed_X4_isEnough
theorem mi_wsX4_failed_wsX4_failed_r2 : ∀ w ∈ wsX4_failed_r2, w ∈ wsX4_failed := fun _ h => (List.mem_cons_of_mem _ (List.mem_append_left _ (List.mem_append_left _ (List.mem_append_left _ (List.mem_append_left _ (List.mem_append_right _ (List.mem_append_left _ h)))))))
theorem mi_wsX4_failed_wsX4_failed_r3 : ∀ w ∈ wsX4_failed_r3, w ∈ wsX4_failed := fun _ h => (List.mem_cons_of_mem _ (List.mem_append_left _ (List.mem_append_left _ (List.mem_append_left _ (List.mem_append_left _ (List.mem_append_right _ (List.mem_append_right _ (List.mem_append_left _ h))))))))
theorem mi_wsX4_failed_wsX4_failed_r4 : ∀ w ∈ wsX4_failed_r4, w ∈ wsX4_failed := fun _ h => (List.mem_cons_of_mem _ (List.mem_append_left _ (List.mem_append_left _ (List.mem_append_left _ (List.mem_append_left _ (List.mem_append_right _ (List.mem_append_right _ (List.mem_append_right _ (List.mem_append_left _ h)))))))))
theorem mi_wsX4_failed_wsX4_failed_r5 : ∀ w ∈ wsX4_failed_r5, w ∈ wsX4_failed := fun _ h => (List.mem_cons_of_mem _ (List.mem_append_left _ (List.mem_append_left _ (List.mem_append_left _ (List.mem_append_left _ (List.mem_append_right _ (List.mem_append_right _ (List.mem_append_right _ (List.mem_append_right _ (List.mem_append_left _ h))))))))))
theorem mi_wsX4_failed_wsX20 : ∀ w ∈ wsX20, w ∈ wsX4_failed := fun _ h => (List.mem_cons_of_mem _ (List.mem_append_right _ h))
theorem mi_wsX4_failed_wsX30 : ∀ w ∈ wsX30, w ∈ wsX4_failed := fun _ h => (List.mem_cons_of_mem _ (List.mem_append_left _ (List.mem_append_left _ (List.mem_append_right _ h))))
set_option maxRecDepth 20000 in
theorem ggX4_failed_X4_laidTree : GoodIn wsX4_failed wsX4_laidTree := goodIn_m _ [(wsX4_failed_r1, [false, false, false, false, false, false, false, false, false, false, false, false, false, false, false, false, false, false, false, false, false, true, true, true]), (wsX4_failed_r1, [false, false, false, false, false, false, false, false, false, false, false, false, false, false, false, false, false, true]), (wsX4_failed_r2, [true]), (wsX4_failed_r1, [true]), (wsX4_failed_r2, [false, true, true, true, true, true, true, true, true, true, true, true, true, true, true, true, true, true, true, true, true, true, true, true]), (wsX4_failed_r3, [true, true, true, true, true, true, true, true, true, true, true, true, true, true, true, true, true, true, true, true, true, true, true, true]), (wsX4_failed_r4, [true, true, true, true, true, true, true, true, true, true, true, true, true, true, true, true, true, true, true, true, true, true, true, true]), (wsX4_failed_r5, [true, true, true, true, true, true, true, true, true, true, true, true, true, true, true]), (wsX40, [true, true, true, true, true, true, true, true, true]), (wsX20, [true, true, true, true, true, true, true, true, true, true, true]), (wsX00, [true, true]), (wsX30, [true, true, true, true, true])] (gm_c mi_wsX4_failed_wsX4_failed_r1 (gm_c mi_wsX4_failed_wsX4_failed_r1 (gm_c mi_wsX4_failed_wsX4_failed_r2 (gm_c mi_wsX4_failed_wsX4_failed_r1 (gm_c mi_wsX4_failed_wsX4_failed_r2 (gm_c mi_wsX4_failed_wsX4_failed_r3 (gm_c mi_wsX4_failed_wsX4_failed_r4 (gm_c mi_wsX4_failed_wsX4_failed_r5 (gm_c mi_wsX4_failed_wsX40 (gm_c mi_wsX4_failed_wsX20 (gm_c mi_wsX4_failed_wsX00 (gm_c mi_wsX4_failed_wsX30 gm_n)))))))))))) rfl (by decide +kernel)
set_option maxRecDepth 20000 in
theorem gX4_failed_X4_laidTree : GoodIn wsX4_failed (wsV RX4 71 RX4 yX4_laidTree wsX4_laidTree) := goodIn_app (goodIn_m _ [(wsX4_failed_r1, [false, false, false, false, false, false, false, false, false, false, false, false, false, false, false, false, false, false, true, true, true]), (wsX4_failed_r1, [false, false, false, false, false, false, false, false, false, false, false, true])] (gm_c mi_wsX4_failed_wsX4_failed_r1 (gm_c mi_wsX4_failed_wsX4_failed_r1 gm_n)) rfl (by decide +kernel)) ggX4_failed_X4_laidTree
set_option maxRecDepth 20000 in
theorem ggX4_failed_X2_gather : GoodIn wsX4_failed wsX2_gather := goodIn_m _ [(wsX4_failed_r5, [false, false, false, false, false, false, false, false, false, false, false, false, false, false, false, false, false, false, true]), (wsX4_failed_r2, [false, false, false, false, false, false, false, false, false, true, false, true]), (wsX4_failed_r3, [false, false, false, false, false, false, true, true, true, true, true, true, true, true, true]), (wsX4_failed_r5, [false, false, false, false, false, false, false, false, false, false, false, false, false, false, false, false, false, false, false, true, true, true]), (wsX4_failed_r2, [false, false, false, false, false, true]), (wsX4_failed_r5, [false, false, false, false, false, false, false, false, false, false, false, false, false, false, false, false, false, false, false, false, false, false, true]), (wsX4_failed_r2, [false, false, false, false, false, false, false, false, false, false, true]), (wsX4_failed_r3, [false, false, false, false, false, false, false, false, false, false, false, false, false, false, false, false, false, false, false, false, false, true, true, true]), (wsX4_failed_r4, [true, true, true, true, true, true]), (wsX4_failed_r3, [false, false, false, false, false, false, false, false, false, false, false, false, false, false, false, true, true, true, true, true, true]), (wsX4_failed_r4, [false, false, false, false, false, false, true, true, true, true, true, true, true, true, true, true, true, true, true, true, true, true]), (wsX20, [true, true, true, true, true, true, true, true, true, true, true]), (wsX30, [true, true, true, true, true])] (gm_c mi_wsX4_failed_wsX4_failed_r5 (gm_c mi_wsX4_failed_wsX4_failed_r2 (gm_c mi_wsX4_failed_wsX4_failed_r3 (gm_c mi_wsX4_failed_wsX4_failed_r5 (gm_c mi_wsX4_failed_wsX4_failed_r2 (gm_c mi_wsX4_failed_wsX4_failed_r5 (gm_c mi_wsX4_failed_wsX4_failed_r2 (gm_c mi_wsX4_failed_wsX4_failed_r3 (gm_c mi_wsX4_failed_wsX4_failed_r4 (gm_c mi_wsX4_failed_wsX4_failed_r3 (gm_c mi_wsX4_failed_wsX4_failed_r4 (gm_c mi_wsX4_failed_wsX20 (gm_c mi_wsX4_failed_wsX30 gm_n))))))))))))) rfl (by decide +kernel)
set_option maxRecDepth 20000 in
theorem gX4_failed_X2_gather : GoodIn wsX4_failed (wsV RX4 170 RX2 yX2_gather wsX2_gather) := goodIn_app (goodIn_m _ [(wsX4_failed_r5, [false, false, false, false, false, false, false, false, false, false, false, false, false, false, false, true, true, true]), (wsX4_failed_r2, [false, false, false, false, false, true])] (gm_c mi_wsX4_failed_wsX4_failed_r5 (gm_c mi_wsX4_failed_wsX4_failed_r2 gm_n)) rfl (by decide +kernel)) ggX4_failed_X2_gather
theorem mi_wsX4_failed_wsX4_failed_r6 : ∀ w ∈ wsX4_failed_r6, w ∈ wsX4_failed := fun _ h => (List.mem_cons_of_mem _ (List.mem_append_left _ (List.mem_append_left _ (List.mem_append_left _ (List.mem_append_left _ (List.mem_append_right _ (List.mem_append_right _ (List.mem_append_right _ (List.mem_append_right _ (List.mem_append_right _ h))))))))))
set_option maxRecDepth 20000 in
theorem ggX4_failed_X4_gatherHeavy : GoodIn wsX4_failed wsX4_gatherHeavy := goodIn_m _ [(wsX4_failed_r6, [false, false, true]), (wsX4_failed_r1, [false, true, true]), (wsX4_failed_r6, [false, false, false, true]), (wsX4_failed_r1, [true]), (wsX4_failed_r6, [false, false, false, false, true]), (wsX4_failed_r5, [false, false, false, false, false, false, false, false, false, false, false, false, false, false, false, true, true, true]), (wsX4_failed_r2, [false, false, false, false, false, true]), (wsX4_failed_r5, [false, false, false, false, false, false, false, false, false, false, false, false, false, false, false, false, false, false, true]), (wsX4_failed_r2, [false, false, false, false, false, false, false, false, false, true, false, true]), (wsX4_failed_r3, [false, false, false, false, false, false, true, true, true, true, true, true, true, true, true]), (wsX4_failed_r5, [false, false, false, false, false, false, false, false, false, false, false, false, false, false, false, false, false, false, false, true, true, true, true]), (wsX4_failed_r2, [false, false, false, false, false, false, false, false, false, false, true]), (wsX4_failed_r3, [false, false, false, false, false, false, false, false, false, false, false, false, false, false, false, false, false, false, false, false, false, true, true, true]), (wsX4_failed_r4, [true, true, true, true, true, true]), (wsX4_failed_r3, [false, false, false, false, false, false, false, false, false, false, false, false, false, false, false, true, true, true, true, true, true]), (wsX4_failed_r4, [false, false, false, false, false, false, true, true, true, true, true, true, true, true, true, true, true, true, true, true, true, true]), (wsX4_failed_r6, [false, false, false, false, false, true, true, true]), (wsX4_failed_r1, [false, false, false, false, false, false, true]), (wsX4_failed_r6, [false, false, false, false, false, false, false, false, true, true, true, true, true, true, true]), (wsX4_failed_r1, [false, false, false, false, false, false, false, false, false, false, false, true]), (wsX4_failed_r6, [false, false, false, false, false, false, false, false, false, false, false, false, false, false, false, true]), (wsX40, [true, true, true, true, true, true, true, true, true]), (wsX30, [true, true, true, true, true]), (wsX20, [true, true, true, true, true, true, true, true, true, true, true]), (wsX00, [true, true])] (gm_c mi_wsX4_failed_wsX4_failed_r6 (gm_c mi_wsX4_failed_wsX4_failed_r1 (gm_c mi_wsX4_failed_wsX4_failed_r6 (gm_c mi_wsX4_failed_wsX4_failed_r1 (gm_c mi_wsX4_failed_wsX4_failed_r6 (gm_c mi_wsX4_failed_wsX4_failed_r5 (gm_c mi_wsX4_failed_wsX4_failed_r2 (gm_c mi_wsX4_failed_wsX4_failed_r5 (gm_c mi_wsX4_failed_wsX4_failed_r2 (gm_c mi_wsX4_failed_wsX4_failed_r3 (gm_c mi_wsX4_failed_wsX4_failed_r5 (gm_c mi_wsX4_failed_wsX4_failed_r2 (gm_c mi_wsX4_failed_wsX4_failed_r3 (gm_c mi_wsX4_failed_wsX4_failed_r4 (gm_c mi_wsX4_failed_wsX4_failed_r3 (gm_c mi_wsX4_failed_wsX4_failed_r4 (gm_c mi_wsX4_failed_wsX4_failed_r6 (gm_c mi_wsX4_failed_wsX4_failed_r1 (gm_c mi_wsX4_failed_wsX4_failed_r6 (gm_c mi_wsX4_failed_wsX4_failed_r1 (gm_c mi_wsX4_failed_wsX4_failed_r6 (gm_c mi_wsX4_failed_wsX40 (gm_c mi_wsX4_failed_wsX30 (gm_c mi_wsX4_failed_wsX20 (gm_c mi_wsX4_failed_wsX00 gm_n))))))))))))))))))))))))) rfl (by decide +kernel)
set_option maxRecDepth 20000 in
theorem gX4_failed_X4_gatherHeavy : GoodIn wsX4_failed (wsV RX4 192 RX4 yX4_gatherHeavy wsX4_gatherHeavy) := goodIn_app (goodIn_m _ [(wsX4_failed_r5, [false, false, false, false, false, false, false, false, false, false, false, false, false, false, false, false, false, false, false, false, false, false, false, true]), (wsX4_failed_r6, [true, true]), (wsX4_failed_r1, [false, false, false, false, false, false, false, false, false, false, false, true])] (gm_c mi_wsX4_failed_wsX4_failed_r5 (gm_c mi_wsX4_failed_wsX4_failed_r6 (gm_c mi_wsX4_failed_wsX4_failed_r1 gm_n))) rfl (by decide +kernel)) ggX4_failed_X4_gatherHeavy
def dt_cX4_failed_0 : List (Nat × Nat × Nat × Nat) := [(0, 42, 0, 0), (1, 180, 2, 12), (4, 27, 0, 0), (5, 28, 0, 0), (6, 182, 2, 79), (9, 153, 2, 12), (12, 29, 0, 0), (13, 21, 1, 4), (15, 184, 2, 186), (18, 154, 2, 5), (21, 2, 0, 0), (22, 172, 0, 0), (23, 42, 0, 0), (24, 29, 0, 0), (25, 21, 1, 4), (27, 182, 2, 189), (30, 154, 2, 6), (33, 16, 1, 254), (35, 172, 0, 0), (36, 42, 0, 0)]
theorem da_cX4_failed_0 : fw dt_cX4_failed_0 0 cX4_failed.data.toList = true := by decide +kernel
theorem dX4_failed_0 : decode cX4_failed 0 = .ok (.aload_n 0, 1) := fo_42 (fw_get da_cX4_failed_0 0 rfl)
theorem dX4_failed_1 : decode cX4_failed 1 = .ok (.getfield 12, 3) := fo_180 (fw_get da_cX4_failed_0 1 rfl)
theorem dX4_failed_4 : decode cX4_failed 4 = .ok (.iload_n 1, 1) := fo_27 (fw_get da_cX4_failed_0 2 rfl)
theorem dX4_failed_5 : decode cX4_failed 5 = .ok (.iload_n 2, 1) := fo_28 (fw_get da_cX4_failed_0 3 rfl)
theorem dX4_failed_6 : decode cX4_failed 6 = .ok (.invokevirtual 79, 3) := fo_182 (fw_get da_cX4_failed_0 4 rfl)
theorem dX4_failed_9 : decode cX4_failed 9 = .ok (.ifCond .eq 12, 3) := fo_153 (fw_get da_cX4_failed_0 5 rfl) (by decide +kernel)
theorem dX4_failed_12 : decode cX4_failed 12 = .ok (.iload_n 3, 1) := fo_29 (fw_get da_cX4_failed_0 6 rfl)
theorem dX4_failed_13 : decode cX4_failed 13 = .ok (.iload 4, 2) := fo_21 (fw_get da_cX4_failed_0 7 rfl)
theorem dX4_failed_15 : decode cX4_failed 15 = .ok (.invokestatic 186, 3) := fo_184 (fw_get da_cX4_failed_0 8 rfl)
theorem dX4_failed_18 : decode cX4_failed 18 = .ok (.ifCond .ne 5, 3) := fo_154 (fw_get da_cX4_failed_0 9 rfl) (by decide +kernel)
theorem dX4_failed_21 : decode cX4_failed 21 = .ok (.iconst (-1), 1) := fo_2 (fw_get da_cX4_failed_0 10 rfl)
theorem dX4_failed_22 : decode cX4_failed 22 = .ok (.ireturn, 1) := fo_172 (fw_get da_cX4_failed_0 11 rfl)
theorem dX4_failed_23 : decode cX4_failed 23 = .ok (.aload_n 0, 1) := fo_42 (fw_get da_cX4_failed_0 12 rfl)
theorem dX4_failed_24 : decode cX4_failed 24 = .ok (.iload_n 3, 1) := fo_29 (fw_get da_cX4_failed_0 13 rfl)
theorem dX4_failed_25 : decode cX4_failed 25 = .ok (.iload 4, 2) := fo_21 (fw_get da_cX4_failed_0 14 rfl)
theorem dX4_failed_27 : decode cX4_failed 27 = .ok (.invokevirtual 189, 3) := fo_182 (fw_get da_cX4_failed_0 15 rfl)
theorem dX4_failed_30 : decode cX4_failed 30 = .ok (.ifCond .ne 6, 3) := fo_154 (fw_get da_cX4_failed_0 16 rfl) (by decide +kernel)
theorem dX4_failed_33 : decode cX4_failed 33 = .ok (.bipush (-2), 2) := fo_16 (fw_get da_cX4_failed_0 17 rfl) (by decide +kernel)
theorem dX4_failed_35 : decode cX4_failed 35 = .ok (.ireturn, 1) := fo_172 (fw_get da_cX4_failed_0 18 rfl)
theorem dX4_failed_36 : decode cX4_failed 36 = .ok (.aload_n 0, 1) := fo_42 (fw_get da_cX4_failed_0 19 rfl)
def dt_cX4_failed_1 : List (Nat × Nat × Nat × Nat) := [(37, 182, 2, 71), (40, 58, 1, 5), (42, 25, 1, 5), (44, 42, 0, 0), (45, 180, 2, 35), (48, 27, 0, 0), (49, 28, 0, 0), (50, 182, 2, 170), (53, 42, 0, 0), (54, 180, 2, 35), (57, 180, 2, 174), (60, 54, 1, 6), (62, 42, 0, 0), (63, 25, 1, 5), (65, 27, 0, 0), (66, 28, 0, 0), (67, 29, 0, 0), (68, 21, 1, 4), (70, 182, 2, 192), (73, 21, 1, 6)]
theorem da_cX4_failed_1 : fw dt_cX4_failed_1 0 cX4_failed.data.toList = true := by decide +kernel
theorem dX4_failed_37 : decode cX4_failed 37 = .ok (.invokevirtual 71, 3) := fo_182 (fw_get da_cX4_failed_1 0 rfl)
theorem dX4_failed_40 : decode cX4_failed 40 = .ok (.astore 5, 2) := fo_58 (fw_get da_cX4_failed_1 1 rfl)
theorem dX4_failed_42 : decode cX4_failed 42 = .ok (.aload 5, 2) := fo_25 (fw_get da_cX4_failed_1 2 rfl)
theorem dX4_failed_44 : decode cX4_failed 44 = .ok (.aload_n 0, 1) := fo_42 (fw_get da_cX4_failed_1 3 rfl)
theorem dX4_failed_45 : decode cX4_failed 45 = .ok (.getfield 35, 3) := fo_180 (fw_get da_cX4_failed_1 4 rfl)
theorem dX4_failed_48 : decode cX4_failed 48 = .ok (.iload_n 1, 1) := fo_27 (fw_get da_cX4_failed_1 5 rfl)
theorem dX4_failed_49 : decode cX4_failed 49 = .ok (.iload_n 2, 1) := fo_28 (fw_get da_cX4_failed_1 6 rfl)
theorem dX4_failed_50 : decode cX4_failed 50 = .ok (.invokevirtual 170, 3) := fo_182 (fw_get da_cX4_failed_1 7 rfl)
theorem dX4_failed_53 : decode cX4_failed 53 = .ok (.aload_n 0, 1) := fo_42 (fw_get da_cX4_failed_1 8 rfl)
theorem dX4_failed_54 : decode cX4_failed 54 = .ok (.getfield 35, 3) := fo_180 (fw_get da_cX4_failed_1 9 rfl)
theorem dX4_failed_57 : decode cX4_failed 57 = .ok (.getfield 174, 3) := fo_180 (fw_get da_cX4_failed_1 10 rfl)
theorem dX4_failed_60 : decode cX4_failed 60 = .ok (.istore 6, 2) := fo_54 (fw_get da_cX4_failed_1 11 rfl)
theorem dX4_failed_62 : decode cX4_failed 62 = .ok (.aload_n 0, 1) := fo_42 (fw_get da_cX4_failed_1 12 rfl)
theorem dX4_failed_63 : decode cX4_failed 63 = .ok (.aload 5, 2) := fo_25 (fw_get da_cX4_failed_1 13 rfl)
theorem dX4_failed_65 : decode cX4_failed 65 = .ok (.iload_n 1, 1) := fo_27 (fw_get da_cX4_failed_1 14 rfl)
theorem dX4_failed_66 : decode cX4_failed 66 = .ok (.iload_n 2, 1) := fo_28 (fw_get da_cX4_failed_1 15 rfl)
theorem dX4_failed_67 : decode cX4_failed 67 = .ok (.iload_n 3, 1) := fo_29 (fw_get da_cX4_failed_1 16 rfl)
theorem dX4_failed_68 : decode cX4_failed 68 = .ok (.iload 4, 2) := fo_21 (fw_get da_cX4_failed_1 17 rfl)
theorem dX4_failed_70 : decode cX4_failed 70 = .ok (.invokevirtual 192, 3) := fo_182 (fw_get da_cX4_failed_1 18 rfl)
theorem dX4_failed_73 : decode cX4_failed 73 = .ok (.iload 6, 2) := fo_21 (fw_get da_cX4_failed_1 19 rfl)
def dt_cX4_failed_2 : List (Nat × Nat × Nat × Nat) := [(75, 42, 0, 0), (76, 180, 2, 35), (79, 180, 2, 174), (82, 100, 0, 0), (83, 172, 0, 0)]
theorem da_cX4_failed_2 : fw dt_cX4_failed_2 0 cX4_failed.data.toList = true := by decide +kernel
theorem dX4_failed_75 : decode cX4_failed 75 = .ok (.aload_n 0, 1) := fo_42 (fw_get da_cX4_failed_2 0 rfl)
theorem dX4_failed_76 : decode cX4_failed 76 = .ok (.getfield 35, 3) := fo_180 (fw_get da_cX4_failed_2 1 rfl)
theorem dX4_failed_79 : decode cX4_failed 79 = .ok (.getfield 174, 3) := fo_180 (fw_get da_cX4_failed_2 2 rfl)
theorem dX4_failed_82 : decode cX4_failed 82 = .ok (.isub, 1) := fo_100 (fw_get da_cX4_failed_2 3 rfl)
theorem dX4_failed_83 : decode cX4_failed 83 = .ok (.ireturn, 1) := fo_172 (fw_get da_cX4_failed_2 4 rfl)
def dt_cX4_isEnough_0 : List (Nat × Nat × Nat × Nat) := [(0, 27, 0, 0), (1, 42, 0, 0), (2, 180, 2, 49), (5, 4, 0, 0), (6, 96, 0, 0), (7, 104, 0, 0), (8, 28, 0, 0), (9, 161, 2, 7), (12, 4, 0, 0), (13, 167, 2, 4), (16, 3, 0, 0), (17, 172, 0, 0)]
theorem da_cX4_isEnough_0 : fw dt_cX4_isEnough_0 0 cX4_isEnough.data.toList = true := by decide +kernel
theorem dX4_isEnough_0 : decode cX4_isEnough 0 = .ok (.iload_n 1, 1) := fo_27 (fw_get da_cX4_isEnough_0 0 rfl)
theorem dX4_isEnough_1 : decode cX4_isEnough 1 = .ok (.aload_n 0, 1) := fo_42 (fw_get da_cX4_isEnough_0 1 rfl)
theorem dX4_isEnough_2 : decode cX4_isEnough 2 = .ok (.getfield 49, 3) := fo_180 (fw_get da_cX4_isEnough_0 2 rfl)
theorem dX4_isEnough_5 : decode cX4_isEnough 5 = .ok (.iconst 1, 1) := fo_4 (fw_get da_cX4_isEnough_0 3 rfl)
theorem dX4_isEnough_6 : decode cX4_isEnough 6 = .ok (.iadd, 1) := fo_96 (fw_get da_cX4_isEnough_0 4 rfl)
theorem dX4_isEnough_7 : decode cX4_isEnough 7 = .ok (.imul, 1) := fo_104 (fw_get da_cX4_isEnough_0 5 rfl)
theorem dX4_isEnough_8 : decode cX4_isEnough 8 = .ok (.iload_n 2, 1) := fo_28 (fw_get da_cX4_isEnough_0 6 rfl)
theorem dX4_isEnough_9 : decode cX4_isEnough 9 = .ok (.if_icmp .lt 7, 3) := fo_161 (fw_get da_cX4_isEnough_0 7 rfl) (by decide +kernel)
theorem dX4_isEnough_12 : decode cX4_isEnough 12 = .ok (.iconst 1, 1) := fo_4 (fw_get da_cX4_isEnough_0 8 rfl)
theorem dX4_isEnough_13 : decode cX4_isEnough 13 = .ok (.goto 4, 3) := fo_167 (fw_get da_cX4_isEnough_0 9 rfl) (by decide +kernel)
theorem dX4_isEnough_16 : decode cX4_isEnough 16 = .ok (.iconst 0, 1) := fo_3 (fw_get da_cX4_isEnough_0 10 rfl)
theorem dX4_isEnough_17 : decode cX4_isEnough 17 = .ok (.ireturn, 1) := fo_172 (fw_get da_cX4_isEnough_0 11 rfl)
theorem mi_wsX4_gatherHeavy_wsX4_gatherHeavy_r1 : ∀ w ∈ wsX4_gatherHeavy_r1, w ∈ wsX4_gatherHeavy := fun _ h => (List.mem_cons_of_mem _ (List.mem_append_left _ (List.mem_append_left _ (List.mem_append_left _ (List.mem_append_left _ (List.mem_append_left _ h))))))
theorem mi_wsX4_gatherHeavy_wsX4_gatherHeavy_r2 : ∀ w ∈ wsX4_gatherHeavy_r2, w ∈ wsX4_gatherHeavy := fun _ h => (List.mem_cons_of_mem _ (List.mem_append_left _ (List.mem_append_left _ (List.mem_append_left _ (List.mem_append_left _ (List.mem_append_right _ (List.mem_append_left _ h)))))))
theorem mi_wsX4_gatherHeavy_wsX4_gatherHeavy_r3 : ∀ w ∈ wsX4_gatherHeavy_r3, w ∈ wsX4_gatherHeavy := fun _ h => (List.mem_cons_of_mem _ (List.mem_append_left _ (List.mem_append_left _ (List.mem_append_left _ (List.mem_append_left _ (List.mem_append_right _ (List.mem_append_right _ h)))))))
theorem mi_wsX4_gatherHeavy_wsX20 : ∀ w ∈ wsX20, w ∈ wsX4_gatherHeavy := fun _ h => (List.mem_cons_of_mem _ (List.mem_append_left _ (List.mem_append_right _ h)))
theorem mi_wsX4_gatherHeavy_wsX30 : ∀ w ∈ wsX30, w ∈ wsX4_gatherHeavy := fun _ h => (List.mem_cons_of_mem _ (List.mem_append_left _ (List.mem_append_left _ (List.mem_append_right _ h))))
set_option maxRecDepth 20000 in
theorem ggX4_gatherHeavy_X2_gather : GoodIn wsX4_gatherHeavy wsX2_gather := goodIn_m _ [(wsX4_gatherHeavy_r1, [false, false, false, false, false, false, false, false, false, true, true, true, true, true, true, true, true, true, true, true, true, true, true, true]), (wsX4_gatherHeavy_r1, [false, false, false, false, false, false, false, false, true]), (wsX4_gatherHeavy_r2, [true, true, true, true, true, true, true, true, true, true, true, true, true, true, true, true, true, true, true, true, true, true, true, true]), (wsX4_gatherHeavy_r3, [true, true, true, true, true, true, true, true, true]), (wsX20, [true, true, true, true, true, true, true, true, true, true, true]), (wsX30, [true, true, true, true, true])] (gm_c mi_wsX4_gatherHeavy_wsX4_gatherHeavy_r1 (gm_c mi_wsX4_gatherHeavy_wsX4_gatherHeavy_r1 (gm_c mi_wsX4_gatherHeavy_wsX4_gatherHeavy_r2 (gm_c mi_wsX4_gatherHeavy_wsX4_gatherHeavy_r3 (gm_c mi_wsX4_gatherHeavy_wsX20 (gm_c mi_wsX4_gatherHeavy_wsX30 gm_n)))))) rfl (by decide +kernel)
set_option maxRecDepth 20000 in
theorem gX4_gatherHeavy_X2_gather : GoodIn wsX4_gatherHeavy (wsV RX4 170 RX2 yX2_gather wsX2_gather) := goodIn_app (goodIn_m _ [(wsX4_gatherHeavy_r1, [false, false, false, false, false, true, true, true, true])] (gm_c mi_wsX4_gatherHeavy_wsX4_gatherHeavy_r1 gm_n) rfl (by decide +kernel)) ggX4_gatherHeavy_X2_gather
theorem mi_wsX4_gatherHeavy_wsX00 : ∀ w ∈ wsX00, w ∈ wsX4_gatherHeavy := fun _ h => (List.mem_cons_of_mem _ (List.mem_append_right _ h))
set_option maxRecDepth 20000 in
theorem ggX4_gatherHeavy_X0_oftenIn : GoodIn wsX4_gatherHeavy wsX0_oftenIn := goodIn_m _ [(wsX4_gatherHeavy_r3, [false, false, false, false, false, false, false, false, false, false, false, false, false, true, true]), (wsX00, [true, true])] (gm_c mi_wsX4_gatherHeavy_wsX4_gatherHeavy_r3 (gm_c mi_wsX4_gatherHeavy_wsX00 gm_n)) rfl (by decide +kernel)
set_option maxRecDepth 20000 in
theorem gX4_gatherHeavy_X0_oftenIn : GoodIn wsX4_gatherHeavy (wsV RX4 113 RX0 yX0_oftenIn wsX0_oftenIn) := goodIn_app (goodIn_m _ [(wsX4_gatherHeavy_r3, [false, false, false, false, false, false, false, false, false, true, true, true, true])] (gm_c mi_wsX4_gatherHeavy_wsX4_gatherHeavy_r3 gm_n) rfl (by decide +kernel)) ggX4_gatherHeavy_X0_oftenIn
set_option maxRecDepth 20000 in
theorem ggX4_gatherHeavy_X3_keepHeavy : GoodIn wsX4_gatherHeavy wsX3_keepHeavy := goodIn_m _ [(wsX4_gatherHeavy_r3, [false, false, false, false, false, false, false, false, false, false, false, false, false, false, false, false, false, false, true]), (wsX4_gatherHeavy_r1, [false, false, false, false, false, false, false, false, false, false, false, false, false, false, false, false, false, false, true]), (wsX4_gatherHeavy_r2, [false, false, false, false, false, false, false, false, false, false, false, false, false, false, false, false, true]), (wsX4_gatherHeavy_r3, [false, false, false, false, false, false, false, false, false, false, false, false, false, false, false, false, false, false, false, true, true, true]), (wsX4_gatherHeavy_r3, [false, false, false, false, false, true, true, true]), (wsX4_gatherHeavy_r1, [false, false, false, false, false, false, false, false, false, false, false, false, false, false, false, false, true]), (wsX4_gatherHeavy_r3, [false, false, false, false, false, false, false, false, true]), (wsX4_gatherHeavy_r2, [false, false, false, false, false, false, false, false, false, false, false, false, false, false, false, true, false, false, false, false, false, true, true, true]), (wsX4_gatherHeavy_r3, [true, true, true, true, true]), (wsX30, [true, true, true, true, true])] (gm_c mi_wsX4_gatherHeavy_wsX4_gatherHeavy_r3 (gm_c mi_wsX4_gatherHeavy_wsX4_gatherHeavy_r1 (gm_c mi_wsX4_gatherHeavy_wsX4_gatherHeavy_r2 (gm_c mi_wsX4_gatherHeavy_wsX4_gatherHeavy_r3 (gm_c mi_wsX4_gatherHeavy_wsX4_gatherHeavy_r3 (gm_c mi_wsX4_gatherHeavy_wsX4_gatherHeavy_r1 (gm_c mi_wsX4_gatherHeavy_wsX4_gatherHeavy_r3 (gm_c mi_wsX4_gatherHeavy_wsX4_gatherHeavy_r2 (gm_c mi_wsX4_gatherHeavy_wsX4_gatherHeavy_r3 (gm_c mi_wsX4_gatherHeavy_wsX30 gm_n)))))))))) rfl (by decide +kernel)
set_option maxRecDepth 20000 in
theorem gX4_gatherHeavy_X3_keepHeavy : GoodIn wsX4_gatherHeavy (wsV RX4 262 RX3 yX3_keepHeavy wsX3_keepHeavy) := goodIn_app (goodIn_m _ [(wsX4_gatherHeavy_r3, [false, false, false, false, false, false, false, false, false, false, false, false, false, false, false, true, true, true]), (wsX4_gatherHeavy_r1, [false, false, false, false, false, false, false, false, false, false, false, false, false, false, false, false, true])] (gm_c mi_wsX4_gatherHeavy_wsX4_gatherHeavy_r3 (gm_c mi_wsX4_gatherHeavy_wsX4_gatherHeavy_r1 gm_n)) rfl (by decide +kernel)) ggX4_gatherHeavy_X3_keepHeavy
def dt_cX4_gatherHeavy_0 : List (Nat × Nat × Nat × Nat) := [(0, 43, 0, 0), (1, 42, 0, 0), (2, 180, 2, 35), (5, 28, 0, 0), (6, 29, 0, 0), (7, 182, 2, 170), (10, 3, 0, 0), (11, 54, 1, 6), (13, 21, 1, 6), (15, 42, 0, 0), (16, 180, 2, 35), (19, 180, 2, 174), (22, 162, 2, 38), (25, 42, 0, 0), (26, 180, 2, 35), (29, 180, 2, 136), (32, 21, 1, 6), (34, 42, 0, 0), (35, 180, 2, 12), (38, 42, 0, 0)]
theorem da_cX4_gatherHeavy_0 : fw dt_cX4_gatherHeavy_0 0 cX4_gatherHeavy.data.toList = true := by decide +kernel
theorem dX4_gatherHeavy_0 : decode cX4_gatherHeavy 0 = .ok (.aload_n 1, 1) := fo_43 (fw_get da_cX4_gatherHeavy_0 0 rfl)
theorem dX4_gatherHeavy_1 : decode cX4_gatherHeavy 1 = .ok (.aload_n 0, 1) := fo_42 (fw_get da_cX4_gatherHeavy_0 1 rfl)
theorem dX4_gatherHeavy_2 : decode cX4_gatherHeavy 2 = .ok (.getfield 35, 3) := fo_180 (fw_get da_cX4_gatherHeavy_0 2 rfl)
theorem dX4_gatherHeavy_5 : decode cX4_gatherHeavy 5 = .ok (.iload_n 2, 1) := fo_28 (fw_get da_cX4_gatherHeavy_0 3 rfl)
theorem dX4_gatherHeavy_6 : decode cX4_gatherHeavy 6 = .ok (.iload_n 3, 1) := fo_29 (fw_get da_cX4_gatherHeavy_0 4 rfl)
theorem dX4_gatherHeavy_7 : decode cX4_gatherHeavy 7 = .ok (.invokevirtual 170, 3) := fo_182 (fw_get da_cX4_gatherHeavy_0 5 rfl)
theorem dX4_gatherHeavy_10 : decode cX4_gatherHeavy 10 = .ok (.iconst 0, 1) := fo_3 (fw_get da_cX4_gatherHeavy_0 6 rfl)
theorem dX4_gatherHeavy_11 : decode cX4_gatherHeavy 11 = .ok (.istore 6, 2) := fo_54 (fw_get da_cX4_gatherHeavy_0 7 rfl)
theorem dX4_gatherHeavy_13 : decode cX4_gatherHeavy 13 = .ok (.iload 6, 2) := fo_21 (fw_get da_cX4_gatherHeavy_0 8 rfl)
theorem dX4_gatherHeavy_15 : decode cX4_gatherHeavy 15 = .ok (.aload_n 0, 1) := fo_42 (fw_get da_cX4_gatherHeavy_0 9 rfl)
theorem dX4_gatherHeavy_16 : decode cX4_gatherHeavy 16 = .ok (.getfield 35, 3) := fo_180 (fw_get da_cX4_gatherHeavy_0 10 rfl)
theorem dX4_gatherHeavy_19 : decode cX4_gatherHeavy 19 = .ok (.getfield 174, 3) := fo_180 (fw_get da_cX4_gatherHeavy_0 11 rfl)
theorem dX4_gatherHeavy_22 : decode cX4_gatherHeavy 22 = .ok (.if_icmp .ge 38, 3) := fo_162 (fw_get da_cX4_gatherHeavy_0 12 rfl) (by decide +kernel)
theorem dX4_gatherHeavy_25 : decode cX4_gatherHeavy 25 = .ok (.aload_n 0, 1) := fo_42 (fw_get da_cX4_gatherHeavy_0 13 rfl)
theorem dX4_gatherHeavy_26 : decode cX4_gatherHeavy 26 = .ok (.getfield 35, 3) := fo_180 (fw_get da_cX4_gatherHeavy_0 14 rfl)
theorem dX4_gatherHeavy_29 : decode cX4_gatherHeavy 29 = .ok (.getfield 136, 3) := fo_180 (fw_get da_cX4_gatherHeavy_0 15 rfl)
theorem dX4_gatherHeavy_32 : decode cX4_gatherHeavy 32 = .ok (.iload 6, 2) := fo_21 (fw_get da_cX4_gatherHeavy_0 16 rfl)
theorem dX4_gatherHeavy_34 : decode cX4_gatherHeavy 34 = .ok (.aload_n 0, 1) := fo_42 (fw_get da_cX4_gatherHeavy_0 17 rfl)
theorem dX4_gatherHeavy_35 : decode cX4_gatherHeavy 35 = .ok (.getfield 12, 3) := fo_180 (fw_get da_cX4_gatherHeavy_0 18 rfl)
theorem dX4_gatherHeavy_38 : decode cX4_gatherHeavy 38 = .ok (.aload_n 0, 1) := fo_42 (fw_get da_cX4_gatherHeavy_0 19 rfl)
def dt_cX4_gatherHeavy_1 : List (Nat × Nat × Nat × Nat) := [(39, 180, 2, 35), (42, 180, 2, 133), (45, 21, 1, 6), (47, 46, 0, 0), (48, 28, 0, 0), (49, 29, 0, 0), (50, 182, 2, 113), (53, 79, 0, 0), (54, 132, 2, 1537), (57, 167, 2, 65492), (60, 42, 0, 0), (61, 180, 2, 35), (64, 29, 0, 0), (65, 28, 0, 0), (66, 100, 0, 0), (67, 21, 1, 4), (69, 21, 1, 5), (71, 182, 2, 262), (74, 177, 0, 0)]
theorem da_cX4_gatherHeavy_1 : fw dt_cX4_gatherHeavy_1 0 cX4_gatherHeavy.data.toList = true := by decide +kernel
theorem dX4_gatherHeavy_39 : decode cX4_gatherHeavy 39 = .ok (.getfield 35, 3) := fo_180 (fw_get da_cX4_gatherHeavy_1 0 rfl)
theorem dX4_gatherHeavy_42 : decode cX4_gatherHeavy 42 = .ok (.getfield 133, 3) := fo_180 (fw_get da_cX4_gatherHeavy_1 1 rfl)
theorem dX4_gatherHeavy_45 : decode cX4_gatherHeavy 45 = .ok (.iload 6, 2) := fo_21 (fw_get da_cX4_gatherHeavy_1 2 rfl)
theorem dX4_gatherHeavy_47 : decode cX4_gatherHeavy 47 = .ok (.iaload, 1) := fo_46 (fw_get da_cX4_gatherHeavy_1 3 rfl)
theorem dX4_gatherHeavy_48 : decode cX4_gatherHeavy 48 = .ok (.iload_n 2, 1) := fo_28 (fw_get da_cX4_gatherHeavy_1 4 rfl)
theorem dX4_gatherHeavy_49 : decode cX4_gatherHeavy 49 = .ok (.iload_n 3, 1) := fo_29 (fw_get da_cX4_gatherHeavy_1 5 rfl)
theorem dX4_gatherHeavy_50 : decode cX4_gatherHeavy 50 = .ok (.invokevirtual 113, 3) := fo_182 (fw_get da_cX4_gatherHeavy_1 6 rfl)
theorem dX4_gatherHeavy_53 : decode cX4_gatherHeavy 53 = .ok (.iastore, 1) := fo_79 (fw_get da_cX4_gatherHeavy_1 7 rfl)
theorem dX4_gatherHeavy_54 : decode cX4_gatherHeavy 54 = .ok (.iinc 6 1, 3) := fo_132 (fw_get da_cX4_gatherHeavy_1 8 rfl) rfl (by decide +kernel)
theorem dX4_gatherHeavy_57 : decode cX4_gatherHeavy 57 = .ok (.goto (-44), 3) := fo_167 (fw_get da_cX4_gatherHeavy_1 9 rfl) (by decide +kernel)
theorem dX4_gatherHeavy_60 : decode cX4_gatherHeavy 60 = .ok (.aload_n 0, 1) := fo_42 (fw_get da_cX4_gatherHeavy_1 10 rfl)
theorem dX4_gatherHeavy_61 : decode cX4_gatherHeavy 61 = .ok (.getfield 35, 3) := fo_180 (fw_get da_cX4_gatherHeavy_1 11 rfl)
theorem dX4_gatherHeavy_64 : decode cX4_gatherHeavy 64 = .ok (.iload_n 3, 1) := fo_29 (fw_get da_cX4_gatherHeavy_1 12 rfl)
theorem dX4_gatherHeavy_65 : decode cX4_gatherHeavy 65 = .ok (.iload_n 2, 1) := fo_28 (fw_get da_cX4_gatherHeavy_1 13 rfl)
theorem dX4_gatherHeavy_66 : decode cX4_gatherHeavy 66 = .ok (.isub, 1) := fo_100 (fw_get da_cX4_gatherHeavy_1 14 rfl)
theorem dX4_gatherHeavy_67 : decode cX4_gatherHeavy 67 = .ok (.iload 4, 2) := fo_21 (fw_get da_cX4_gatherHeavy_1 15 rfl)
theorem dX4_gatherHeavy_69 : decode cX4_gatherHeavy 69 = .ok (.iload 5, 2) := fo_21 (fw_get da_cX4_gatherHeavy_1 16 rfl)
theorem dX4_gatherHeavy_71 : decode cX4_gatherHeavy 71 = .ok (.invokevirtual 262, 3) := fo_182 (fw_get da_cX4_gatherHeavy_1 17 rfl)
theorem dX4_gatherHeavy_74 : decode cX4_gatherHeavy 74 = .ok (.return_, 1) := fo_177 (fw_get da_cX4_gatherHeavy_1 18 rfl)


set_option maxHeartbeats 4000000 in
set_option maxRecDepth 100000 in
theorem c_X4_isEnough (l : Launch) (dC : Nat → ClassId) (dI : Nat → Nat → Nat) (m_ : Nat) (q_row : Nat) (q_t : Nat) (t_ : Nat) (h0 : Nat) (k0 : Nat) (w_ : Nat) (z_ : Nat) (slots : Int32) (old : Int32) (p0 : Int32) (p1 : Int32) : Met l yX4_isEnough wsX4_isEnough ({ frames := 0, cells := 0, slots := 0, locals := 0 }) (va_Pc [.ref m_, .int p0, .int p1] (fun U => va_P (dC, dI) vwCl [kx_4 m_ q_row q_t t_ h0 k0 w_ z_ slots old] U.heap ∧ va_K (dC, dI) vwCl [] U)) (vp_Si (fun r : Int32 => (r = 1 ∧ (0 : Int) ≤ 1) ∨ (r = 0 ∧ (0 : Int) ≤ 1))) 0 0 (fun _ => False) := by
  refine kx_stS (ws := wsX4_isEnough) (cc := cX4_isEnough) (maxL := 3) (ret := (some .boolean)) (by decide) rfl (Nat.le_of_ble_eq_true rfl) ?_
  intro p e s m below meth c ls hx hb hr hlocks hts hown hml hP hK hl
  have hown : s.vm.findClass RX4 = some m.cls := hown
  have hl : lv_has ls 3 [(0, .ref m_), (1, .int p0), (2, .int p1)] := hl
  have hf_49 := hts (.fieldLink RX4 49 "MajorityIndex" "slotsNow" "I") (List.mem_of_getElem? (i := 1) rfl)
  have hi_4 : ∀ w ∈ u_ws RX4 TX4 9, w ∈ wsX4_isEnough := fun w h => List.mem_cons_of_mem _ (List.mem_append_right _ h)
  refine lv_iload_n hx hb dX4_isEnough_0 rfl (lv_at hl 1 rfl) ?_
  refine lv_aload_n hx hb dX4_isEnough_1 rfl (lv_at hl 0 rfl) ?_
  refine va_get (D := (dC, dI)) (ci := 4) (v := .int slots) (C := RX4) (T := TX4) (N := 9) hx hb hts hi_4 hown hK hP 0 rfl rfl 7 (by decide) hf_49 (fun _ h9 => h9) rfl dX4_isEnough_2 ?_
  refine lv_iconst (v := 1) hx hb dX4_isEnough_5 (by decide) ?_
  refine lv_iadd hx hb dX4_isEnough_6 ?_
  refine lv_topi (fun y_1 ey_1 => ?_)
  refine lv_imul hx hb dX4_isEnough_7 ?_
  refine lv_topi (fun y_2 ey_2 => ?_)
  refine lv_iload_n hx hb dX4_isEnough_8 rfl (lv_at hl 2 rfl) ?_
  refine lv_icmp_lt (tgt := 16) hx hb dX4_isEnough_9 (by decide) (fun c_3 => ?_) (fun c_3 => ?_)
  · have i_3 : y_2.toInt < p1.toInt := kc_lt c_3
    refine lv_iconst (v := 0) hx hb dX4_isEnough_16 (by decide) ?_
    exact W.zret (v := 0) hx hb hr (by decide) (hlocks := hlocks) (fun t ht hW => ⟨0, rfl, Or.inr (⟨rfl, om_29⟩), ht⟩) (fun q hq => by cases hq) dX4_isEnough_17
  · have i_3 : p1.toInt ≤ y_2.toInt := kc_nlt c_3
    refine lv_iconst (v := 1) hx hb dX4_isEnough_12 (by decide) ?_
    refine lv_goto (tgt := 17) hx hb dX4_isEnough_13 (by decide) ?_
    exact W.zret (v := 1) hx hb hr (by decide) (hlocks := hlocks) (fun t ht hW => ⟨1, rfl, Or.inl ⟨rfl, om_29⟩, ht⟩) (fun q hq => by cases hq) dX4_isEnough_17

set_option maxHeartbeats 4000000 in
set_option maxRecDepth 100000 in
theorem c_X4_gatherHeavy (l : Launch) (dC : Nat → ClassId) (dI : Nat → Nat → Nat) (m_ : Nat) (q_row : Nat) (q_t : Nat) (t_ : Nat) (h0 : Nat) (k0 : Nat) (w_ : Nat) (z_ : Nat) (slots : Int32) (old : Int32) (q_joined : Nat) (q_from : Nat) (q_to : Nat) (q_size : Nat) (q_lossOf : Nat) (q_lessBy : Nat) (q_value : Nat) (q_number : Nat) (nodes : Int32) (here : Int32) (q_cell : Nat) (cyI : ClassId) (len : Int32) (f : Nat → Int32) (ff : Nat → Int32) (ft : Nat → Int32) (fs : Nat → Int32) (fo : Nat → Int32) (uv : Nat → Int32) (un : Nat → Int32) (a_v : Nat) (a_n : Nat) (cyI : ClassId) (vs : Int32) (lo : Int32) (le : Int32) (fv : Nat → Int32) (fn : Nat → Int32) (p0 : Int32) (p1 : Int32) (p2 : Int32) (p3 : Int32) (sz : Nat) (b0 : 0 ≤ nodes.toInt) (c0 : nodes.toInt ≤ 319) (s0 : sixes fs) (d0 : 0 ≤ p0.toInt) (d1 : p1.toInt ≤ 160) : Met l yX4_gatherHeavy wsX4_gatherHeavy ({ frames := 4, cells := 0, slots := 0, locals := 180 }) (va_Pc [.ref m_, .ref q_t, .int p0, .int p1, .int p2, .int p3] (fun U => U.heap.size = sz ∧ va_P (dC, dI) vwCl [kx_4 m_ q_row q_t t_ h0 k0 w_ z_ slots old, kx_0 q_row q_cell len, kx_a q_cell cyI 160 f, kx_2 q_t q_row q_joined q_from q_to q_size q_lossOf q_lessBy q_value q_number nodes here, kx_a q_from cyI 319 ff, kx_a q_to cyI 319 ft, kx_a q_size cyI 319 fs, kx_a q_lossOf cyI 319 fo, kx_a q_value cyI 1914 uv, kx_a q_number cyI 1914 un, kx_3 h0 a_v a_n vs lo le, kx_a a_v cyI 12 fv, kx_a a_n cyI 12 fn] U.heap ∧ va_K (dC, dI) vwCl [(cyI, .int)] U ∧ va_D (fun _ => True) [kx_4 m_ q_row q_t t_ h0 k0 w_ z_ slots old, kx_0 q_row q_cell len, kx_a q_cell cyI 160 f, kx_2 q_t q_row q_joined q_from q_to q_size q_lossOf q_lessBy q_value q_number nodes here, kx_a q_from cyI 319 ff, kx_a q_to cyI 319 ft, kx_a q_size cyI 319 fs, kx_a q_lossOf cyI 319 fo, kx_a q_value cyI 1914 uv, kx_a q_number cyI 1914 un, kx_3 h0 a_v a_n vs lo le, kx_a a_v cyI 12 fv, kx_a a_n cyI 12 fn] ∧ va_Nw (.methodLinkNest RX3 42 yX4_isHeavy RX4) U)) (va_Qv (fun u : Int32 × Int32 × Int32 × (Nat → Int32) × (Nat → Int32) => 0 ≤ u.1.toInt ∧ u.1.toInt ≤ 12) (fun (u : Int32 × Int32 × Int32 × (Nat → Int32) × (Nat → Int32)) (t : State) => va_P (dC, dI) vwCl [kx_4 m_ q_row q_t t_ h0 k0 w_ z_ slots old, kx_0 q_row q_cell len, kx_a q_cell cyI 160 f, kx_2 q_t q_row q_joined q_from q_to q_size q_lossOf q_lessBy q_value q_number nodes here, kx_a q_from cyI 319 ff, kx_a q_to cyI 319 ft, kx_a q_size cyI 319 fs, kx_a q_lossOf cyI 319 fo, kx_a q_value cyI 1914 uv, kx_a q_number cyI 1914 un, kx_3 h0 a_v a_n u.1 u.2.1 u.2.2.1, kx_a a_v cyI 12 u.2.2.2.1, kx_a a_n cyI 12 u.2.2.2.2] t.heap ∧ va_K (dC, dI) vwCl [(cyI, .int)] t ∧ va_D (va_A [kx_4 m_ q_row q_t t_ h0 k0 w_ z_ slots old, kx_0 q_row q_cell len, kx_a q_cell cyI 160 f, kx_2 q_t q_row q_joined q_from q_to q_size q_lossOf q_lessBy q_value q_number nodes here, kx_a q_from cyI 319 ff, kx_a q_to cyI 319 ft, kx_a q_size cyI 319 fs, kx_a q_lossOf cyI 319 fo, kx_a q_value cyI 1914 uv, kx_a q_number cyI 1914 un, kx_3 h0 a_v a_n vs lo le, kx_a a_v cyI 12 fv, kx_a a_n cyI 12 fn] sz) [kx_4 m_ q_row q_t t_ h0 k0 w_ z_ slots old, kx_0 q_row q_cell len, kx_a q_cell cyI 160 f, kx_2 q_t q_row q_joined q_from q_to q_size q_lossOf q_lessBy q_value q_number nodes here, kx_a q_from cyI 319 ff, kx_a q_to cyI 319 ft, kx_a q_size cyI 319 fs, kx_a q_lossOf cyI 319 fo, kx_a q_value cyI 1914 uv, kx_a q_number cyI 1914 un, kx_3 h0 a_v a_n u.1 u.2.1 u.2.2.1, kx_a a_v cyI 12 u.2.2.2.1, kx_a a_n cyI 12 u.2.2.2.2]) (va_A [kx_4 m_ q_row q_t t_ h0 k0 w_ z_ slots old, kx_0 q_row q_cell len, kx_a q_cell cyI 160 f, kx_2 q_t q_row q_joined q_from q_to q_size q_lossOf q_lessBy q_value q_number nodes here, kx_a q_from cyI 319 ff, kx_a q_to cyI 319 ft, kx_a q_size cyI 319 fs, kx_a q_lossOf cyI 319 fo, kx_a q_value cyI 1914 uv, kx_a q_number cyI 1914 un, kx_3 h0 a_v a_n vs lo le, kx_a a_v cyI 12 fv, kx_a a_n cyI 12 fn] sz)) 0 0 (va_A [kx_4 m_ q_row q_t t_ h0 k0 w_ z_ slots old, kx_0 q_row q_cell len, kx_a q_cell cyI 160 f, kx_2 q_t q_row q_joined q_from q_to q_size q_lossOf q_lessBy q_value q_number nodes here, kx_a q_from cyI 319 ff, kx_a q_to cyI 319 ft, kx_a q_size cyI 319 fs, kx_a q_lossOf cyI 319 fo, kx_a q_value cyI 1914 uv, kx_a q_number cyI 1914 un, kx_3 h0 a_v a_n vs lo le, kx_a a_v cyI 12 fv, kx_a a_n cyI 12 fn] sz) := by
  refine Met.ofW (cc := cX4_gatherHeavy) (maxL := 7) (ret := none) (by decide) rfl ?_
  intro p e s m args below meth c s₁ B hml hv
  obtain ⟨rfl, hsz, hP, hK, hD0, hN0⟩ := hv
  have hx := B.exec
  have hb := B.bytes
  have hr := B.returns
  have hts := atoms_spec (ws := wsX4_gatherHeavy) B.pre
  have hown : s.vm.findClass RX4 = some m.cls := findClass_of_methodNamed B.named
  have hlocks := B.notSynchronized
  subst hsz
  have hD := hD0.self (sz := s.heap.size)
  generalize hAe : va_A [kx_4 m_ q_row q_t t_ h0 k0 w_ z_ slots old, kx_0 q_row q_cell len, kx_a q_cell cyI 160 f, kx_2 q_t q_row q_joined q_from q_to q_size q_lossOf q_lessBy q_value q_number nodes here, kx_a q_from cyI 319 ff, kx_a q_to cyI 319 ft, kx_a q_size cyI 319 fs, kx_a q_lossOf cyI 319 fo, kx_a q_value cyI 1914 uv, kx_a q_number cyI 1914 un, kx_3 h0 a_v a_n vs lo le, kx_a a_v cyI 12 fv, kx_a a_n cyI 12 fn] s.heap.size = A at hD ⊢
  have hA : ∀ q : Nat, s.heap.size ≤ q → A q := fun q h => by rw [← hAe]; exact Or.inr h
  have hS : va_S A s.heap s.heap [] := va_S.rf
  have hP : va_P (dC, dI) vwCl [kx_4 m_ q_row q_t t_ h0 k0 w_ z_ slots old, kx_0 q_row q_cell len, kx_a q_cell cyI 160 f, kx_2 q_t q_row q_joined q_from q_to q_size q_lossOf q_lessBy q_value q_number nodes here, kx_a q_from cyI 319 ff, kx_a q_to cyI 319 ft, kx_a q_size cyI 319 fs, kx_a q_lossOf cyI 319 fo, kx_a q_value cyI 1914 uv, kx_a q_number cyI 1914 un, kx_3 h0 a_v a_n vs lo le, kx_a a_v cyI 12 fv, kx_a a_n cyI 12 fn] s.heap := hP
  have hl := lv_entry ([.ref m_, .ref q_t, .int p0, .int p1, .int p2, .int p3]) (n := 7) (Nat.le_of_ble_eq_true rfl)
  rw [lg_entry_eq]
  generalize (lg_sl ([.ref m_, .ref q_t, .int p0, .int p1, .int p2, .int p3]) ++ List.replicate (7 - (lg_sl ([.ref m_, .ref q_t, .int p0, .int p1, .int p2, .int p3])).length) Slot.unset).toArray = ls at hl ⊢
  have hl : lv_has ls 7 [(0, .ref m_), (1, .ref q_t), (2, .int p0), (3, .int p1), (4, .int p2), (5, .int p3)] := hl
  have hf_35 := hts (.fieldLink RX4 35 "MajorityIndex" "votes" "LMajorityIndex$Votes;") (List.mem_of_getElem? (i := 1) rfl)
  have hi_4 : ∀ w ∈ u_ws RX4 TX4 9, w ∈ wsX4_gatherHeavy := fun w h => List.mem_cons_of_mem _ (List.mem_append_left _ (List.mem_append_left _ (List.mem_append_left _ (List.mem_append_right _ h))))
  have hf_174 := hts (.fieldLink RX4 174 "MajorityIndex$Votes" "size" "I") (List.mem_of_getElem? (i := 2) rfl)
  have hi_3 : ∀ w ∈ u_ws RX3 TX3 5, w ∈ wsX4_gatherHeavy := fun w h => List.mem_cons_of_mem _ (List.mem_append_left _ (List.mem_append_left _ (List.mem_append_right _ h)))
  have hf_136 := hts (.fieldLink RX4 136 "MajorityIndex$Votes" "number" "[I") (List.mem_of_getElem? (i := 3) rfl)
  have hf_12 := hts (.fieldLink RX4 12 "MajorityIndex" "row" "LMajorityIndex$Row;") (List.mem_of_getElem? (i := 4) rfl)
  have hf_133 := hts (.fieldLink RX4 133 "MajorityIndex$Votes" "value" "[I") (List.mem_of_getElem? (i := 5) rfl)
  refine lv_aload_n hx hb dX4_gatherHeavy_0 rfl (lv_at hl 1 rfl) ?_
  refine lv_aload_n hx hb dX4_gatherHeavy_1 rfl (lv_at hl 0 rfl) ?_
  refine va_get (D := (dC, dI)) (ci := 4) (v := .ref h0) (C := RX4) (T := TX4) (N := 9) hx hb hts hi_4 hown hK hP 0 rfl rfl 3 (by decide) hf_35 (fun _ h9 => h9) rfl dX4_gatherHeavy_2 ?_
  refine lv_iload_n hx hb dX4_gatherHeavy_5 rfl (lv_at hl 2 rfl) ?_
  refine lv_iload_n hx hb dX4_gatherHeavy_6 rfl (lv_at hl 3 rfl) ?_
  obtain ⟨hPc, hDc, hFc, hCc⟩ := kx_preM (wc := [kx_2 q_t q_row q_joined q_from q_to q_size q_lossOf q_lessBy q_value q_number nodes here, kx_a q_from cyI 319 ff, kx_a q_to cyI 319 ft, kx_a q_size cyI 319 fs, kx_a q_lossOf cyI 319 fo, kx_a q_value cyI 1914 uv, kx_a q_number cyI 1914 un, kx_3 h0 a_v a_n vs lo le, kx_a a_v cyI 12 fv, kx_a a_n cyI 12 fn]) hP hD hS hA [false, false, false, true, true, true, true, true, true, true, true, true, true] rfl
  have hKc := hK
  refine va_callv (va_runV (As := [.ref h0, .int p0, .int p1]) (rest := []) ⟨hx, hb, hml, hown, hts⟩ (kx_un (c_X2_gather l dC dI q_t q_row q_joined q_from q_to q_size q_lossOf q_lessBy q_value q_number nodes here h0 a_v a_n cyI vs lo le fv fn ff ft fs fo uv un p0 p1 s.heap.size b0 c0 s0)) (cwV 3 hts gX4_gatherHeavy_X2_gather rfl rfl rfl (by decide +kernel) ⟨Nat.le_of_ble_eq_true rfl, Nat.le_of_ble_eq_true rfl⟩) ⟨fun a U g mk q => by obtain ⟨q0, q1, qP, qK, qD⟩ := q; exact ⟨q0, q1, qP, va_K.moved (u := U) (U := U.calling g mk a) (Vm.Alike.refl U.vm) qK, qD⟩, kx_rc2 hKc hPc (q0 := 0) rfl, fun U hU hW => ⟨rfl, by rw [hU], by rw [hU]; exact hPc, va_K.moved hW.alike hKc, hDc.weaken (fun _ _ _ _ => trivial)⟩⟩ rfl rfl hl.1 rfl (lv_room (Nat.le_of_ble_eq_true rfl)) dX4_gatherHeavy_7 ⟨Nat.le_of_ble_eq_true rfl, Nat.le_of_ble_eq_true rfl⟩) hS (fun q _ h => hFc q h) hFc (fun u t H1 locs ht hvm w_1 hB hz1 hk1 hS => ?_)
  obtain ⟨o_2, o_3, o_4, o_5, o_6⟩ := u
  dsimp only at w_1 hB
  obtain ⟨hP1, hK1, hD1⟩ := hB
  rw [ht] at hP1
  have hK1 := va_K.moved hvm.symm hK1
  obtain ⟨hP, hD⟩ := kx_joinM (w2 := [kx_4 m_ q_row q_t t_ h0 k0 w_ z_ slots old, kx_0 q_row q_cell len, kx_a q_cell cyI 160 f, kx_2 q_t q_row q_joined q_from q_to q_size q_lossOf q_lessBy q_value q_number nodes here, kx_a q_from cyI 319 ff, kx_a q_to cyI 319 ft, kx_a q_size cyI 319 fs, kx_a q_lossOf cyI 319 fo, kx_a q_value cyI 1914 uv, kx_a q_number cyI 1914 un, kx_3 h0 a_v a_n o_2 o_3 o_4, kx_a a_v cyI 12 o_5, kx_a a_n cyI 12 o_6]) hP hD hP1 hD1 hk1 hFc [false, false, false, true, true, true, true, true, true, true, true, true, true] hCc rfl
  clear hP1 hD1 hK1 hk1 hz1 hFc hDc hPc hKc hCc
  generalize H1 = H at hP hS ⊢
  have w_1 : 0 ≤ o_2.toInt ∧ o_2.toInt ≤ 12 := w_1
  refine lv_iconst (v := 0) hx hb dX4_gatherHeavy_10 (by decide) ?_
  refine lv_istore (lv' := [(6, .int 0), (0, .ref m_), (1, .ref q_t), (2, .int p0), (3, .int p1), (4, .int p2), (5, .int p3)]) hx hb dX4_gatherHeavy_11 hl (by decide) rfl (fun ls hl => ?_)
  have LP1 : ∀ (n : Nat) (i : Int32) (wn : Nat → Int32), (0 ≤ i.toInt) → (o_2.toInt - i.toInt).toNat < n → ∀ (H : Heap) (locs : List Loc), va_P (dC, dI) vwCl [kx_4 m_ q_row q_t t_ h0 k0 w_ z_ slots old, kx_0 q_row q_cell len, kx_a q_cell cyI 160 f, kx_2 q_t q_row q_joined q_from q_to q_size q_lossOf q_lessBy q_value q_number nodes here, kx_a q_from cyI 319 ff, kx_a q_to cyI 319 ft, kx_a q_size cyI 319 fs, kx_a q_lossOf cyI 319 fo, kx_a q_value cyI 1914 uv, kx_a q_number cyI 1914 un, kx_3 h0 a_v a_n o_2 o_3 o_4, kx_a a_v cyI 12 o_5, kx_a a_n cyI 12 wn] H → va_D A [kx_4 m_ q_row q_t t_ h0 k0 w_ z_ slots old, kx_0 q_row q_cell len, kx_a q_cell cyI 160 f, kx_2 q_t q_row q_joined q_from q_to q_size q_lossOf q_lessBy q_value q_number nodes here, kx_a q_from cyI 319 ff, kx_a q_to cyI 319 ft, kx_a q_size cyI 319 fs, kx_a q_lossOf cyI 319 fo, kx_a q_value cyI 1914 uv, kx_a q_number cyI 1914 un, kx_3 h0 a_v a_n o_2 o_3 o_4, kx_a a_v cyI 12 o_5, kx_a a_n cyI 12 wn] → va_S A s.heap H locs → ∀ (ls : Array Slot), lv_has ls 7 [(6, .int i), (0, .ref m_), (1, .ref q_t), (2, .int p0), (3, .int p1), (4, .int p2), (5, .int p3)] → W p l e (headSpec wsX4_gatherHeavy ({ frames := 4, cells := 0, slots := 0, locals := 180 })).room s m ([.ref m_, .ref q_t, .int p0, .int p1, .int p2, .int p3] : List Value).toArray below meth c H locs 0 0 (MQ below (va_Qv (fun u : Int32 × Int32 × Int32 × (Nat → Int32) × (Nat → Int32) => 0 ≤ u.1.toInt ∧ u.1.toInt ≤ 12) (fun (u : Int32 × Int32 × Int32 × (Nat → Int32) × (Nat → Int32)) (t : State) => va_P (dC, dI) vwCl [kx_4 m_ q_row q_t t_ h0 k0 w_ z_ slots old, kx_0 q_row q_cell len, kx_a q_cell cyI 160 f, kx_2 q_t q_row q_joined q_from q_to q_size q_lossOf q_lessBy q_value q_number nodes here, kx_a q_from cyI 319 ff, kx_a q_to cyI 319 ft, kx_a q_size cyI 319 fs, kx_a q_lossOf cyI 319 fo, kx_a q_value cyI 1914 uv, kx_a q_number cyI 1914 un, kx_3 h0 a_v a_n u.1 u.2.1 u.2.2.1, kx_a a_v cyI 12 u.2.2.2.1, kx_a a_n cyI 12 u.2.2.2.2] t.heap ∧ va_K (dC, dI) vwCl [(cyI, .int)] t ∧ va_D A [kx_4 m_ q_row q_t t_ h0 k0 w_ z_ slots old, kx_0 q_row q_cell len, kx_a q_cell cyI 160 f, kx_2 q_t q_row q_joined q_from q_to q_size q_lossOf q_lessBy q_value q_number nodes here, kx_a q_from cyI 319 ff, kx_a q_to cyI 319 ft, kx_a q_size cyI 319 fs, kx_a q_lossOf cyI 319 fo, kx_a q_value cyI 1914 uv, kx_a q_number cyI 1914 un, kx_3 h0 a_v a_n u.1 u.2.1 u.2.2.1, kx_a a_v cyI 12 u.2.2.2.1, kx_a a_n cyI 12 u.2.2.2.2]) A) ([.ref m_, .ref q_t, .int p0, .int p1, .int p2, .int p3] : List Value).toArray s 0 0 A) (F0 m 13 ls []) := by
    intro n
    induction n with
    | zero => intro i wn LP1_h0 hn; exact absurd hn (Nat.not_lt_zero _)
    | succ n ih1 =>
      intro i wn LP1_h0 hn1 H locs hP hD hS ls hl
      refine lv_iload hx hb dX4_gatherHeavy_13 (lv_at hl 0 rfl) ?_
      refine lv_aload_n hx hb dX4_gatherHeavy_15 rfl (lv_at hl 1 rfl) ?_
      refine va_get (D := (dC, dI)) (ci := 4) (v := .ref h0) (C := RX4) (T := TX4) (N := 9) hx hb hts hi_4 hown hK hP 0 rfl rfl 3 (by decide) hf_35 (fun _ h9 => h9) rfl dX4_gatherHeavy_16 ?_
      refine va_get (D := (dC, dI)) (ci := 3) (v := .int o_2) (C := RX3) (T := TX3) (N := 5) hx hb hts hi_3 hown hK hP 10 rfl rfl 2 (by decide) hf_174 (fun _ h9 => h9) rfl dX4_gatherHeavy_19 ?_
      refine lv_icmp_ge (tgt := 60) hx hb dX4_gatherHeavy_22 (by decide) (fun c_7 => ?_) (fun c_7 => ?_)
      · have i_7 : o_2.toInt ≤ i.toInt := kc_le c_7
        refine lv_aload_n hx hb dX4_gatherHeavy_60 rfl (lv_at hl 1 rfl) ?_
        refine va_get (D := (dC, dI)) (ci := 4) (v := .ref h0) (C := RX4) (T := TX4) (N := 9) hx hb hts hi_4 hown hK hP 0 rfl rfl 3 (by decide) hf_35 (fun _ h9 => h9) rfl dX4_gatherHeavy_61 ?_
        refine lv_iload_n hx hb dX4_gatherHeavy_64 rfl (lv_at hl 4 rfl) ?_
        refine lv_iload_n hx hb dX4_gatherHeavy_65 rfl (lv_at hl 3 rfl) ?_
        refine lv_isub hx hb dX4_gatherHeavy_66 ?_
        refine lv_topi (fun y_8 ey_8 => ?_)
        refine lv_iload hx hb dX4_gatherHeavy_67 (lv_at hl 5 rfl) ?_
        refine lv_iload hx hb dX4_gatherHeavy_69 (lv_at hl 6 rfl) ?_
        obtain ⟨hPc, hDc, hFc, hCc⟩ := kx_preM (wc := [kx_3 h0 a_v a_n o_2 o_3 o_4, kx_a a_v cyI 12 o_5, kx_a a_n cyI 12 wn]) hP hD hS hA [false, false, false, false, false, false, false, false, false, false, true, true, true] rfl
        have hKc := hK
        refine va_callv (va_runV (As := [.int y_8, .int p2, .int p3]) (rest := []) ⟨hx, hb, hml, hown, hts⟩ (c_X3_keepHeavy l dC dI h0 a_v a_n cyI o_2 o_3 o_4 o_5 wn y_8 p2 p3 H.size w_1.1 w_1.2) (cwV 3 hts gX4_gatherHeavy_X3_keepHeavy rfl rfl rfl (by decide +kernel) ⟨Nat.le_of_ble_eq_true rfl, Nat.le_of_ble_eq_true rfl⟩) ⟨fun a U g mk q => by obtain ⟨q0, q1, qP, qK, qD, qn0⟩ := q; exact ⟨q0, q1, qP, va_K.moved (u := U) (U := U.calling g mk a) (Vm.Alike.refl U.vm) qK, qD, va_Nw.same (u := U) (U := U.calling g mk a) rfl rfl qn0⟩, kx_rc3 hKc hPc (q0 := 0) rfl, fun U hU hW => ⟨rfl, by rw [hU], by rw [hU]; exact hPc, va_K.moved hW.alike hKc, hDc.weaken (fun _ _ _ _ => trivial), va_Nw.warmM hW hN0⟩⟩ rfl rfl hl.1 rfl (lv_room (Nat.le_of_ble_eq_true rfl)) dX4_gatherHeavy_71 ⟨Nat.le_of_ble_eq_true rfl, Nat.le_of_ble_eq_true rfl⟩) hS (fun q _ h => hFc q h) hFc (fun u t H1 locs ht hvm w_9 hB hz1 hk1 hS => ?_)
        obtain ⟨o_10, o_11, o_12⟩ := u
        dsimp only at w_9 hB
        obtain ⟨hP1, hK1, hD1⟩ := hB
        rw [ht] at hP1
        have hK1 := va_K.moved hvm.symm hK1
        obtain ⟨hP, hD⟩ := kx_joinM (w2 := [kx_4 m_ q_row q_t t_ h0 k0 w_ z_ slots old, kx_0 q_row q_cell len, kx_a q_cell cyI 160 f, kx_2 q_t q_row q_joined q_from q_to q_size q_lossOf q_lessBy q_value q_number nodes here, kx_a q_from cyI 319 ff, kx_a q_to cyI 319 ft, kx_a q_size cyI 319 fs, kx_a q_lossOf cyI 319 fo, kx_a q_value cyI 1914 uv, kx_a q_number cyI 1914 un, kx_3 h0 a_v a_n o_10 o_3 o_4, kx_a a_v cyI 12 o_11, kx_a a_n cyI 12 o_12]) hP hD hP1 hD1 hk1 hFc [false, false, false, false, false, false, false, false, false, false, true, true, true] hCc rfl
        clear hP1 hD1 hK1 hk1 hz1 hFc hDc hPc hKc hCc
        generalize H1 = H at hP hS ⊢
        have w_9 : 0 ≤ o_10.toInt ∧ o_10.toInt ≤ o_2.toInt := w_9
        have hP9 := hP
        have hD9 := hD
        have hK9 := hK
        exact W.vret hx hb hr (hlocks := hlocks) (fun t ht hW => ⟨⟨(o_10, o_3, o_4, o_11, o_12), rfl, (by (try dsimp only); omega), by rw [ht]; exact hP9, va_K.moved hW.alike hK9, hD9⟩, hS.F ht⟩) hS.2.2 dX4_gatherHeavy_74
      · have i_7 : i.toInt < o_2.toInt := kc_nle c_7
        refine lv_aload_n hx hb dX4_gatherHeavy_25 rfl (lv_at hl 1 rfl) ?_
        refine va_get (D := (dC, dI)) (ci := 4) (v := .ref h0) (C := RX4) (T := TX4) (N := 9) hx hb hts hi_4 hown hK hP 0 rfl rfl 3 (by decide) hf_35 (fun _ h9 => h9) rfl dX4_gatherHeavy_26 ?_
        refine va_get (D := (dC, dI)) (ci := 3) (v := .ref a_n) (C := RX3) (T := TX3) (N := 5) hx hb hts hi_3 hown hK hP 10 rfl rfl 1 (by decide) hf_136 (fun _ h9 => h9) rfl dX4_gatherHeavy_29 ?_
        refine lv_iload hx hb dX4_gatherHeavy_32 (lv_at hl 0 rfl) ?_
        refine lv_aload_n hx hb dX4_gatherHeavy_34 rfl (lv_at hl 1 rfl) ?_
        refine va_get (D := (dC, dI)) (ci := 4) (v := .ref q_row) (C := RX4) (T := TX4) (N := 9) hx hb hts hi_4 hown hK hP 0 rfl rfl 0 (by decide) hf_12 (fun _ h9 => h9) rfl dX4_gatherHeavy_35 ?_
        refine lv_aload_n hx hb dX4_gatherHeavy_38 rfl (lv_at hl 1 rfl) ?_
        refine va_get (D := (dC, dI)) (ci := 4) (v := .ref h0) (C := RX4) (T := TX4) (N := 9) hx hb hts hi_4 hown hK hP 0 rfl rfl 3 (by decide) hf_35 (fun _ h9 => h9) rfl dX4_gatherHeavy_39 ?_
        refine va_get (D := (dC, dI)) (ci := 3) (v := .ref a_v) (C := RX3) (T := TX3) (N := 5) hx hb hts hi_3 hown hK hP 10 rfl rfl 0 (by decide) hf_133 (fun _ h9 => h9) rfl dX4_gatherHeavy_42 ?_
        refine lv_iload hx hb dX4_gatherHeavy_45 (lv_at hl 0 rfl) ?_
        refine va_iald hx hb hK hP 11 0 rfl rfl (ki_in (om_10 LP1_h0) (om_32 w_1.2 i_7)) dX4_gatherHeavy_47 ?_
        refine lv_topi (fun y_13 ey_13 => ?_)
        have j_13 : y_13.toInt = (o_5 i.toNatClampNeg).toInt := congrArg Int32.toInt ey_13
        refine lv_iload_n hx hb dX4_gatherHeavy_48 rfl (lv_at hl 3 rfl) ?_
        refine lv_iload_n hx hb dX4_gatherHeavy_49 rfl (lv_at hl 4 rfl) ?_
        have hPc := hP.sub (ws' := [kx_0 q_row q_cell len, kx_a q_cell cyI 160 f]) [1, 2] rfl
        have hKc := hK
        refine vp_callSi (W.runV (As := [.int y_13, .int p0, .int p1]) (rest := [.int i, .ref a_n]) ⟨hx, hb, hml, hown, hts⟩ (c_X0_oftenIn l dC dI q_row q_cell cyI len f y_13 p0 p1 d0 d1) (cwV 3 hts gX4_gatherHeavy_X0_oftenIn rfl rfl rfl (by decide +kernel) ⟨Nat.le_of_ble_eq_true rfl, Nat.le_of_ble_eq_true rfl⟩) ⟨fun a U g mk q => by obtain ⟨q0, qP, qK⟩ := q; exact ⟨q0, qP, va_K.moved (u := U) (U := U.calling g mk a) (Vm.Alike.refl U.vm) qK⟩, kx_rc0 hKc hPc (q0 := 0) rfl, fun U hU hW => ⟨rfl, by rw [hU]; exact hPc, va_K.moved hW.alike hKc⟩⟩ rfl rfl hl.1 rfl (lv_room (Nat.le_of_ble_eq_true rfl)) dX4_gatherHeavy_50 ⟨Nat.le_of_ble_eq_true rfl, Nat.le_of_ble_eq_true rfl⟩) (fun r_14 w_14 => ?_)
        have w_14 : r_14.toInt = (cnt f y_13 p0.toNatClampNeg (p1.toInt - p0.toInt).toNat : Int) := w_14
        refine va_iast hx hb hK hP hD hS 12 0 rfl rfl (ki_in (om_10 LP1_h0) (om_32 w_1.2 i_7)) dX4_gatherHeavy_53 (fun H locs hP hD hS => ?_)
        obtain ⟨hP, hD⟩ := kx_re (w2 := [kx_4 m_ q_row q_t t_ h0 k0 w_ z_ slots old, kx_0 q_row q_cell len, kx_a q_cell cyI 160 f, kx_2 q_t q_row q_joined q_from q_to q_size q_lossOf q_lessBy q_value q_number nodes here, kx_a q_from cyI 319 ff, kx_a q_to cyI 319 ft, kx_a q_size cyI 319 fs, kx_a q_lossOf cyI 319 fo, kx_a q_value cyI 1914 uv, kx_a q_number cyI 1914 un, kx_3 h0 a_v a_n o_2 o_3 o_4, kx_a a_v cyI 12 o_5, kx_a a_n cyI 12 (upd wn i.toNatClampNeg r_14)]) hP hD rfl
        obtain ⟨x_15, ex_15⟩ : ∃ y : Int32, y = i + 1 := ⟨_, rfl⟩
        have i_15 : x_15.toInt = i.toInt + 1 := ki_add ex_15 rfl rfl (om_13 LP1_h0) (om_33 w_1.2 i_7)
        refine lv_iinc (v := x_15) (lv' := [(6, .int x_15), (0, .ref m_), (1, .ref q_t), (2, .int p0), (3, .int p1), (4, .int p2), (5, .int p3)]) hx hb dX4_gatherHeavy_54 hl (k := 0) rfl (by rw [ex_15]; rfl) (by decide) rfl (fun ls hl => ?_)
        refine lv_goto (tgt := 13) hx hb dX4_gatherHeavy_57 (by decide) ?_
        exact ih1 x_15 (upd wn i.toNatClampNeg r_14) (om_34 LP1_h0 i_15) (om_mu hn1 (om_5 i_15) (om_6 i_7)) _ _ hP hD hS ls (lv_sub hl [0, 1, 2, 3, 4, 5, 6] rfl)
  have k_16 : (0 : Int32).toInt = 0 := rfl
  exact LP1 ((o_2.toInt - 0 : Int).toNat + 1) 0 o_6 om_35 (Nat.lt_succ_self _) _ _ hP hD hS ls (lv_sub hl [0, 1, 2, 3, 4, 5, 6] rfl)



abbrev cX4_count : ByteArray := prog_1_method_12_code
def yX4_count : MethodName := ⟨RX4, "count", "(III)I"⟩
abbrev cX4_place : ByteArray := prog_1_method_13_code
def yX4_place : MethodName := ⟨RX4, "place", "(II)I"⟩
abbrev cX4_values : ByteArray := prog_1_method_14_code
def yX4_values : MethodName := ⟨RX4, "values", "()I"⟩
abbrev cX4_majority : ByteArray := prog_1_method_31_code
def yX4_majority : MethodName := ⟨RX4, "majority", "(II)I"⟩
abbrev cX4_margin : ByteArray := prog_1_method_32_code
def yX4_margin : MethodName := ⟨RX4, "margin", "(III)I"⟩
abbrev cX4_longest : ByteArray := prog_1_method_35_code
def yX4_longest : MethodName := ⟨RX4, "longest", "(IIII)I"⟩
abbrev cX4_reach : ByteArray := prog_1_method_36_code
def yX4_reach : MethodName := ⟨RX4, "reach", "(I)I"⟩
abbrev cX4_parted : ByteArray := prog_1_method_37_code
def yX4_parted : MethodName := ⟨RX4, "parted", "(II)I"⟩
abbrev cX4_cut : ByteArray := prog_1_method_38_code
def yX4_cut : MethodName := ⟨RX4, "cut", "(II)I"⟩
abbrev cX4_majorities : ByteArray := prog_1_method_39_code
def yX4_majorities : MethodName := ⟨RX4, "majorities", "()I"⟩
abbrev cX4_windows : ByteArray := prog_1_method_40_code
def yX4_windows : MethodName := ⟨RX4, "windows", "(IIII)I"⟩
abbrev cX4_needs : ByteArray := prog_1_method_41_code
def yX4_needs : MethodName := ⟨RX4, "needs", "(IIIII)I"⟩
abbrev cX4_spares : ByteArray := prog_1_method_42_code
def yX4_spares : MethodName := ⟨RX4, "spares", "(IIIII)I"⟩
abbrev cX4_would : ByteArray := prog_1_method_43_code
def yX4_would : MethodName := ⟨RX4, "would", "(IIII)I"⟩
abbrev cX4_mostWithoutHeavy : ByteArray := prog_1_method_50_code
def yX4_mostWithoutHeavy : MethodName := ⟨RX4, "mostWithoutHeavy", "(III)I"⟩
abbrev cX4_farthestHeavy : ByteArray := prog_1_method_58_code
def yX4_farthestHeavy : MethodName := ⟨RX4, "farthestHeavy", "(IIII)I"⟩
abbrev cX4_slideWindow : ByteArray := prog_1_method_59_code
def yX4_slideWindow : MethodName := ⟨RX4, "slideWindow", "(III)I"⟩
abbrev cX4_creditHeavy : ByteArray := prog_1_method_60_code
def yX4_creditHeavy : MethodName := ⟨RX4, "creditHeavy", "(III)Z"⟩
abbrev cX4_kindOfMostWins : ByteArray := prog_1_method_61_code
def yX4_kindOfMostWins : MethodName := ⟨RX4, "kindOfMostWins", "()I"⟩
def wsX4_count : List Cond := .code yX4_count cX4_count 4 (some .int) :: ([.fieldLink RX4 12 "MajorityIndex" "row" "LMajorityIndex$Row;", .methodLink RX4 68 yX4_isValue, .static yX4_isValue, .initialized RX4, .code yX4_isValue cX4_isValue 1 (some .boolean), .methodLink RX4 79 yX0_hasRange, .instanceMethod yX0_hasRange, .selects RX0 yX0_hasRange yX0_hasRange, .initialized RX0, .code yX0_hasRange cX0_hasRange 3 (some .boolean), .fieldLink RX0 15 "MajorityIndex$Row" "length" "I", .methodLink RX4 113 yX0_oftenIn, .instanceMethod yX0_oftenIn, .selects RX0 yX0_oftenIn yX0_oftenIn, .code yX0_oftenIn cX0_oftenIn 6 (some .int), .fieldLink RX0 9 "MajorityIndex$Row" "cell" "[I"] ++ wsX40 ++ wsX00)
def wsX4_place : List Cond := .code yX4_place cX4_place 5 (some .int) :: ([.fieldLink RX4 12 "MajorityIndex" "row" "LMajorityIndex$Row;", .fieldLink RX4 57 "MajorityIndex$Row" "length" "I", .fieldLink RX4 110 "MajorityIndex$Row" "cell" "[I"] ++ wsX40 ++ wsX00)
def wsX4_values : List Cond := .code yX4_values cX4_values 3 (some .int) :: ([.fieldLink RX4 28 "MajorityIndex" "tally" "LMajorityIndex$Tally;", .fieldLink RX4 12 "MajorityIndex" "row" "LMajorityIndex$Row;", .fieldLink RX4 57 "MajorityIndex$Row" "length" "I", .fieldLink RX4 120 "MajorityIndex$Tally" "kind" "[I", .methodLink RX4 117 yX1_learn, .instanceMethod yX1_learn, .selects RX1 yX1_learn yX1_learn, .initialized RX1, .code yX1_learn cX1_learn 3 none, .fieldLink RX1 18 "MajorityIndex$Row" "length" "I", .fieldLink RX1 9 "MajorityIndex$Tally" "kind" "[I", .methodLink RX1 24 yX0_firstLike, .instanceMethod yX0_firstLike, .selects RX0 yX0_firstLike yX0_firstLike, .initialized RX0, .code yX0_firstLike cX0_firstLike 3 (some .int), .fieldLink RX0 9 "MajorityIndex$Row" "cell" "[I"] ++ wsX40 ++ wsX00 ++ wsX10)
def wsX4_majority : List Cond := .code yX4_majority cX4_majority 3 (some .int) :: ([.fieldLink RX4 12 "MajorityIndex" "row" "LMajorityIndex$Row;", .constant RX4 102 (-40000), .methodLink RX4 79 yX0_hasRange, .instanceMethod yX0_hasRange, .selects RX0 yX0_hasRange yX0_hasRange, .initialized RX0, .code yX0_hasRange cX0_hasRange 3 (some .boolean), .fieldLink RX0 15 "MajorityIndex$Row" "length" "I", .methodLink RX4 207 yX0_leader, .instanceMethod yX0_leader, .selects RX0 yX0_leader yX0_leader, .code yX0_leader cX0_leader 6 (some .int), .constant RX0 23 (-40000), .fieldLink RX0 9 "MajorityIndex$Row" "cell" "[I", .methodLink RX0 24 yX0_oftenIn, .instanceMethod yX0_oftenIn, .selects RX0 yX0_oftenIn yX0_oftenIn, .code yX0_oftenIn cX0_oftenIn 6 (some .int), .static yX4_isHeavy, .initialized RX4, .code yX4_isHeavy cX4_isHeavy 4 (some .boolean)] ++ wsX40 ++ wsX00)
def wsX4_margin : List Cond := .code yX4_margin cX4_margin 4 (some .int) :: ([.fieldLink RX4 12 "MajorityIndex" "row" "LMajorityIndex$Row;", .constant RX4 102 (-40000), .methodLink RX4 68 yX4_isValue, .static yX4_isValue, .initialized RX4, .code yX4_isValue cX4_isValue 1 (some .boolean), .methodLink RX4 79 yX0_hasRange, .instanceMethod yX0_hasRange, .selects RX0 yX0_hasRange yX0_hasRange, .initialized RX0, .code yX0_hasRange cX0_hasRange 3 (some .boolean), .fieldLink RX0 15 "MajorityIndex$Row" "length" "I", .methodLink RX4 113 yX0_oftenIn, .instanceMethod yX0_oftenIn, .selects RX0 yX0_oftenIn yX0_oftenIn, .code yX0_oftenIn cX0_oftenIn 6 (some .int), .fieldLink RX0 9 "MajorityIndex$Row" "cell" "[I"] ++ wsX40 ++ wsX00)
def wsX4_farthestHeavy : List Cond := .code yX4_farthestHeavy cX4_farthestHeavy 8 (some .int) :: ([.fieldLink RX4 12 "MajorityIndex" "row" "LMajorityIndex$Row;", .fieldLink RX4 57 "MajorityIndex$Row" "length" "I", .fieldLink RX4 110 "MajorityIndex$Row" "cell" "[I", .methodLink RX4 273 yX4_isHeavy, .static yX4_isHeavy, .initialized RX4, .code yX4_isHeavy cX4_isHeavy 4 (some .boolean)] ++ wsX40 ++ wsX00)
def wsX4_longest : List Cond := .code yX4_longest cX4_longest 9 (some .int) :: ([.fieldLink RX4 12 "MajorityIndex" "row" "LMajorityIndex$Row;", .fieldLink RX4 57 "MajorityIndex$Row" "length" "I", .methodLink RX4 68 yX4_isValue, .static yX4_isValue, .initialized RX4, .code yX4_isValue cX4_isValue 1 (some .boolean), .methodLink RX4 186 yX4_isShare, .static yX4_isShare, .code yX4_isShare cX4_isShare 2 (some .boolean), .methodLink RX4 218 yX4_farthestHeavy, .instanceMethod yX4_farthestHeavy, .selects RX4 yX4_farthestHeavy yX4_farthestHeavy, .code yX4_farthestHeavy cX4_farthestHeavy 8 (some .int), .fieldLink RX4 110 "MajorityIndex$Row" "cell" "[I", .methodLink RX4 273 yX4_isHeavy, .static yX4_isHeavy, .code yX4_isHeavy cX4_isHeavy 4 (some .boolean)] ++ wsX40 ++ wsX00)
def wsX4_reach_r1 : List Cond := [Cond.fieldLink RX4 12 "MajorityIndex" "row" "LMajorityIndex$Row;", Cond.fieldLink RX4 28 "MajorityIndex" "tally" "LMajorityIndex$Tally;", Cond.fieldLink RX4 57 "MajorityIndex$Row" "length" "I", Cond.methodLink RX4 64 yX0_hasPlace, Cond.instanceMethod yX0_hasPlace, Cond.selects RX0 yX0_hasPlace yX0_hasPlace, Cond.initialized RX0, Cond.code yX0_hasPlace cX0_hasPlace 2 (some .boolean), Cond.fieldLink RX0 15 "MajorityIndex$Row" "length" "I", Cond.methodLink RX4 117 yX1_learn, Cond.instanceMethod yX1_learn, Cond.selects RX1 yX1_learn yX1_learn, Cond.initialized RX1, Cond.code yX1_learn cX1_learn 3 none, Cond.fieldLink RX1 18 "MajorityIndex$Row" "length" "I", Cond.fieldLink RX1 9 "MajorityIndex$Tally" "kind" "[I", Cond.methodLink RX1 24 yX0_firstLike, Cond.instanceMethod yX0_firstLike, Cond.selects RX0 yX0_firstLike yX0_firstLike, Cond.code yX0_firstLike cX0_firstLike 3 (some .int), Cond.fieldLink RX0 9 "MajorityIndex$Row" "cell" "[I", Cond.methodLink RX4 221 yX1_clear, Cond.instanceMethod yX1_clear, Cond.selects RX1 yX1_clear yX1_clear]
def wsX4_reach_r2 : List Cond := [Cond.code yX1_clear cX1_clear 1 none, Cond.fieldLink RX1 15 "MajorityIndex$Tally" "often" "[I", Cond.fieldLink RX1 34 "MajorityIndex$Tally" "taken" "I", Cond.fieldLink RX1 37 "MajorityIndex$Tally" "most" "I", Cond.methodLink RX1 28 yJ7_fill_53178, Cond.static yJ7_fill_53178, Cond.initialized RJ7, Cond.code yJ7_fill_53178 cJ7_fill_53178 4 none, Cond.methodLink RX4 224 yX1_take, Cond.instanceMethod yX1_take, Cond.selects RX1 yX1_take yX1_take, Cond.code yX1_take cX1_take 3 none, Cond.methodLink RX4 227 yX1_hasMajority, Cond.instanceMethod yX1_hasMajority, Cond.selects RX1 yX1_hasMajority yX1_hasMajority, Cond.code yX1_hasMajority cX1_hasMajority 1 (some .boolean)]
def wsX4_reach : List Cond := .code yX4_reach cX4_reach 4 (some .int) :: ((wsX4_reach_r1 ++ wsX4_reach_r2) ++ wsX40 ++ wsX00 ++ wsX10)
def wsX4_parted_r1 : List Cond := [Cond.fieldLink RX4 12 "MajorityIndex" "row" "LMajorityIndex$Row;", Cond.fieldLink RX4 28 "MajorityIndex" "tally" "LMajorityIndex$Tally;", Cond.fieldLink RX4 46 "MajorityIndex" "fewest" "[I", Cond.methodLink RX4 91 Lib.Math.min.name, Cond.static Lib.Math.min.name, Cond.initialized "java/lang/Math", Cond.code Lib.Math.min.name Lib.Math.min.code 2 (some .int), Cond.methodLink RX4 79 yX0_hasRange, Cond.instanceMethod yX0_hasRange, Cond.selects RX0 yX0_hasRange yX0_hasRange, Cond.initialized RX0, Cond.code yX0_hasRange cX0_hasRange 3 (some .boolean), Cond.fieldLink RX0 15 "MajorityIndex$Row" "length" "I", Cond.methodLink RX4 117 yX1_learn, Cond.instanceMethod yX1_learn, Cond.selects RX1 yX1_learn yX1_learn, Cond.initialized RX1, Cond.code yX1_learn cX1_learn 3 none, Cond.fieldLink RX1 18 "MajorityIndex$Row" "length" "I", Cond.fieldLink RX1 9 "MajorityIndex$Tally" "kind" "[I", Cond.methodLink RX1 24 yX0_firstLike, Cond.instanceMethod yX0_firstLike, Cond.selects RX0 yX0_firstLike yX0_firstLike, Cond.code yX0_firstLike cX0_firstLike 3 (some .int)]
def wsX4_parted_r2 : List Cond := [Cond.fieldLink RX0 9 "MajorityIndex$Row" "cell" "[I", Cond.methodLink RX4 231 yJ7_fill_53178, Cond.static yJ7_fill_53178, Cond.initialized RJ7, Cond.code yJ7_fill_53178 cJ7_fill_53178 4 none, Cond.methodLink RX4 221 yX1_clear, Cond.instanceMethod yX1_clear, Cond.selects RX1 yX1_clear yX1_clear, Cond.code yX1_clear cX1_clear 1 none, Cond.fieldLink RX1 15 "MajorityIndex$Tally" "often" "[I", Cond.fieldLink RX1 34 "MajorityIndex$Tally" "taken" "I", Cond.fieldLink RX1 37 "MajorityIndex$Tally" "most" "I", Cond.methodLink RX1 28 yJ7_fill_53178, Cond.methodLink RX4 224 yX1_take, Cond.instanceMethod yX1_take, Cond.selects RX1 yX1_take yX1_take, Cond.code yX1_take cX1_take 3 none, Cond.methodLink RX4 227 yX1_hasMajority, Cond.instanceMethod yX1_hasMajority, Cond.selects RX1 yX1_hasMajority yX1_hasMajority, Cond.code yX1_hasMajority cX1_hasMajority 1 (some .boolean)]
def wsX4_parted : List Cond := .code yX4_parted cX4_parted 5 (some .int) :: ((wsX4_parted_r1 ++ wsX4_parted_r2) ++ wsX40 ++ wsX00 ++ wsX10)
def wsX4_cut : List Cond := .code yX4_cut cX4_cut 6 (some .int) :: ([.fieldLink RX4 12 "MajorityIndex" "row" "LMajorityIndex$Row;", .constant RX4 102 (-40000), .methodLink RX4 79 yX0_hasRange, .instanceMethod yX0_hasRange, .selects RX0 yX0_hasRange yX0_hasRange, .initialized RX0, .code yX0_hasRange cX0_hasRange 3 (some .boolean), .fieldLink RX0 15 "MajorityIndex$Row" "length" "I", .methodLink RX4 207 yX0_leader, .instanceMethod yX0_leader, .selects RX0 yX0_leader yX0_leader, .code yX0_leader cX0_leader 6 (some .int), .constant RX0 23 (-40000), .fieldLink RX0 9 "MajorityIndex$Row" "cell" "[I", .methodLink RX0 24 yX0_oftenIn, .instanceMethod yX0_oftenIn, .selects RX0 yX0_oftenIn yX0_oftenIn, .code yX0_oftenIn cX0_oftenIn 6 (some .int), .static yX4_isHeavy, .initialized RX4, .code yX4_isHeavy cX4_isHeavy 4 (some .boolean)] ++ wsX40 ++ wsX00)
def wsX4_majorities_r1 : List Cond := [Cond.fieldLink RX4 28 "MajorityIndex" "tally" "LMajorityIndex$Tally;", Cond.fieldLink RX4 12 "MajorityIndex" "row" "LMajorityIndex$Row;", Cond.fieldLink RX4 57 "MajorityIndex$Row" "length" "I", Cond.methodLink RX4 117 yX1_learn, Cond.instanceMethod yX1_learn, Cond.selects RX1 yX1_learn yX1_learn, Cond.initialized RX1, Cond.code yX1_learn cX1_learn 3 none, Cond.fieldLink RX1 18 "MajorityIndex$Row" "length" "I", Cond.fieldLink RX1 9 "MajorityIndex$Tally" "kind" "[I", Cond.methodLink RX1 24 yX0_firstLike, Cond.instanceMethod yX0_firstLike, Cond.selects RX0 yX0_firstLike yX0_firstLike, Cond.initialized RX0, Cond.code yX0_firstLike cX0_firstLike 3 (some .int), Cond.fieldLink RX0 9 "MajorityIndex$Row" "cell" "[I", Cond.methodLink RX4 221 yX1_clear, Cond.instanceMethod yX1_clear, Cond.selects RX1 yX1_clear yX1_clear, Cond.code yX1_clear cX1_clear 1 none, Cond.fieldLink RX1 15 "MajorityIndex$Tally" "often" "[I", Cond.fieldLink RX1 34 "MajorityIndex$Tally" "taken" "I", Cond.fieldLink RX1 37 "MajorityIndex$Tally" "most" "I", Cond.methodLink RX1 28 yJ7_fill_53178]
def wsX4_majorities_r2 : List Cond := [Cond.static yJ7_fill_53178, Cond.initialized RJ7, Cond.code yJ7_fill_53178 cJ7_fill_53178 4 none, Cond.methodLink RX4 224 yX1_take, Cond.instanceMethod yX1_take, Cond.selects RX1 yX1_take yX1_take, Cond.code yX1_take cX1_take 3 none, Cond.methodLink RX4 227 yX1_hasMajority, Cond.instanceMethod yX1_hasMajority, Cond.selects RX1 yX1_hasMajority yX1_hasMajority, Cond.code yX1_hasMajority cX1_hasMajority 1 (some .boolean)]
def wsX4_majorities : List Cond := .code yX4_majorities cX4_majorities 4 (some .int) :: ((wsX4_majorities_r1 ++ wsX4_majorities_r2) ++ wsX40 ++ wsX00 ++ wsX10)
def wsX4_creditHeavy : List Cond := .code yX4_creditHeavy cX4_creditHeavy 6 (some .boolean) :: ([.fieldLink RX4 12 "MajorityIndex" "row" "LMajorityIndex$Row;", .fieldLink RX4 57 "MajorityIndex$Row" "length" "I", .fieldLink RX4 28 "MajorityIndex" "tally" "LMajorityIndex$Tally;", .fieldLink RX4 283 "MajorityIndex$Tally" "often" "[I", .fieldLink RX4 42 "MajorityIndex" "wins" "[I", .methodLink RX4 273 yX4_isHeavy, .static yX4_isHeavy, .initialized RX4, .code yX4_isHeavy cX4_isHeavy 4 (some .boolean)] ++ wsX40 ++ wsX00 ++ wsX10)
def wsX4_slideWindow_r1 : List Cond := [Cond.fieldLink RX4 28 "MajorityIndex" "tally" "LMajorityIndex$Tally;", Cond.fieldLink RX4 12 "MajorityIndex" "row" "LMajorityIndex$Row;", Cond.fieldLink RX4 42 "MajorityIndex" "wins" "[I", Cond.fieldLink RX4 57 "MajorityIndex$Row" "length" "I", Cond.methodLink RX4 117 yX1_learn, Cond.instanceMethod yX1_learn, Cond.selects RX1 yX1_learn yX1_learn, Cond.initialized RX1, Cond.code yX1_learn cX1_learn 3 none, Cond.fieldLink RX1 18 "MajorityIndex$Row" "length" "I", Cond.fieldLink RX1 9 "MajorityIndex$Tally" "kind" "[I", Cond.methodLink RX1 24 yX0_firstLike, Cond.instanceMethod yX0_firstLike, Cond.selects RX0 yX0_firstLike yX0_firstLike, Cond.initialized RX0, Cond.code yX0_firstLike cX0_firstLike 3 (some .int), Cond.fieldLink RX0 9 "MajorityIndex$Row" "cell" "[I", Cond.methodLink RX4 221 yX1_clear, Cond.instanceMethod yX1_clear, Cond.selects RX1 yX1_clear yX1_clear, Cond.code yX1_clear cX1_clear 1 none, Cond.fieldLink RX1 15 "MajorityIndex$Tally" "often" "[I", Cond.fieldLink RX1 34 "MajorityIndex$Tally" "taken" "I", Cond.fieldLink RX1 37 "MajorityIndex$Tally" "most" "I"]
def wsX4_slideWindow_r2 : List Cond := [Cond.methodLink RX1 28 yJ7_fill_53178, Cond.static yJ7_fill_53178, Cond.initialized RJ7, Cond.code yJ7_fill_53178 cJ7_fill_53178 4 none, Cond.methodLink RX4 231 yJ7_fill_53178, Cond.methodLink RX4 224 yX1_take, Cond.instanceMethod yX1_take, Cond.selects RX1 yX1_take yX1_take, Cond.code yX1_take cX1_take 3 none, Cond.methodLink RX4 277 yX1_drop, Cond.instanceMethod yX1_drop, Cond.selects RX1 yX1_drop yX1_drop, Cond.code yX1_drop cX1_drop 2 none, Cond.methodLink RX4 280 yX4_creditHeavy, Cond.instanceMethod yX4_creditHeavy, Cond.selects RX4 yX4_creditHeavy yX4_creditHeavy, Cond.initialized RX4, Cond.code yX4_creditHeavy cX4_creditHeavy 6 (some .boolean), Cond.fieldLink RX4 283 "MajorityIndex$Tally" "often" "[I", Cond.methodLink RX4 273 yX4_isHeavy, Cond.static yX4_isHeavy, Cond.code yX4_isHeavy cX4_isHeavy 4 (some .boolean)]
def wsX4_slideWindow : List Cond := .code yX4_slideWindow cX4_slideWindow 6 (some .int) :: ((wsX4_slideWindow_r1 ++ wsX4_slideWindow_r2) ++ wsX40 ++ wsX00 ++ wsX10)
def wsX4_kindOfMostWins : List Cond := .code yX4_kindOfMostWins cX4_kindOfMostWins 5 (some .int) :: ([.fieldLink RX4 12 "MajorityIndex" "row" "LMajorityIndex$Row;", .fieldLink RX4 57 "MajorityIndex$Row" "length" "I", .fieldLink RX4 42 "MajorityIndex" "wins" "[I", .fieldLink RX4 110 "MajorityIndex$Row" "cell" "[I"] ++ wsX40 ++ wsX00)
def wsX4_windows_r1 : List Cond := [Cond.fieldLink RX4 12 "MajorityIndex" "row" "LMajorityIndex$Row;", Cond.fieldLink RX4 57 "MajorityIndex$Row" "length" "I", Cond.constant RX4 102 (-40000), Cond.fieldLink RX4 110 "MajorityIndex$Row" "cell" "[I", Cond.fieldLink RX4 42 "MajorityIndex" "wins" "[I", Cond.methodLink RX4 186 yX4_isShare, Cond.static yX4_isShare, Cond.initialized RX4, Cond.code yX4_isShare cX4_isShare 2 (some .boolean), Cond.methodLink RX4 237 yX4_slideWindow, Cond.instanceMethod yX4_slideWindow, Cond.selects RX4 yX4_slideWindow yX4_slideWindow, Cond.code yX4_slideWindow cX4_slideWindow 6 (some .int), Cond.fieldLink RX4 28 "MajorityIndex" "tally" "LMajorityIndex$Tally;", Cond.methodLink RX4 117 yX1_learn, Cond.instanceMethod yX1_learn, Cond.selects RX1 yX1_learn yX1_learn, Cond.initialized RX1, Cond.code yX1_learn cX1_learn 3 none, Cond.fieldLink RX1 18 "MajorityIndex$Row" "length" "I", Cond.fieldLink RX1 9 "MajorityIndex$Tally" "kind" "[I", Cond.methodLink RX1 24 yX0_firstLike, Cond.instanceMethod yX0_firstLike, Cond.selects RX0 yX0_firstLike yX0_firstLike]
def wsX4_windows_r2 : List Cond := [Cond.initialized RX0, Cond.code yX0_firstLike cX0_firstLike 3 (some .int), Cond.fieldLink RX0 9 "MajorityIndex$Row" "cell" "[I", Cond.methodLink RX4 221 yX1_clear, Cond.instanceMethod yX1_clear, Cond.selects RX1 yX1_clear yX1_clear, Cond.code yX1_clear cX1_clear 1 none, Cond.fieldLink RX1 15 "MajorityIndex$Tally" "often" "[I", Cond.fieldLink RX1 34 "MajorityIndex$Tally" "taken" "I", Cond.fieldLink RX1 37 "MajorityIndex$Tally" "most" "I", Cond.methodLink RX1 28 yJ7_fill_53178, Cond.static yJ7_fill_53178, Cond.initialized RJ7, Cond.code yJ7_fill_53178 cJ7_fill_53178 4 none, Cond.methodLink RX4 231 yJ7_fill_53178, Cond.methodLink RX4 224 yX1_take, Cond.instanceMethod yX1_take, Cond.selects RX1 yX1_take yX1_take, Cond.code yX1_take cX1_take 3 none, Cond.methodLink RX4 277 yX1_drop, Cond.instanceMethod yX1_drop, Cond.selects RX1 yX1_drop yX1_drop, Cond.code yX1_drop cX1_drop 2 none, Cond.methodLink RX4 280 yX4_creditHeavy]
def wsX4_windows_r3 : List Cond := [Cond.instanceMethod yX4_creditHeavy, Cond.selects RX4 yX4_creditHeavy yX4_creditHeavy, Cond.code yX4_creditHeavy cX4_creditHeavy 6 (some .boolean), Cond.fieldLink RX4 283 "MajorityIndex$Tally" "often" "[I", Cond.methodLink RX4 273 yX4_isHeavy, Cond.static yX4_isHeavy, Cond.code yX4_isHeavy cX4_isHeavy 4 (some .boolean), Cond.methodLink RX4 240 yX4_kindOfMostWins, Cond.instanceMethod yX4_kindOfMostWins, Cond.selects RX4 yX4_kindOfMostWins yX4_kindOfMostWins, Cond.code yX4_kindOfMostWins cX4_kindOfMostWins 5 (some .int)]
def wsX4_windows : List Cond := .code yX4_windows cX4_windows 7 (some .int) :: ((wsX4_windows_r1 ++ (wsX4_windows_r2 ++ wsX4_windows_r3)) ++ wsX40 ++ wsX00 ++ wsX10)
def wsX4_mostWithoutHeavy : List Cond := .code yX4_mostWithoutHeavy cX4_mostWithoutHeavy 3 (some .int) :: ([])
def wsX4_needs_r1 : List Cond := [Cond.fieldLink RX4 12 "MajorityIndex" "row" "LMajorityIndex$Row;", Cond.methodLink RX4 96 Lib.Math.max.name, Cond.static Lib.Math.max.name, Cond.initialized "java/lang/Math", Cond.code Lib.Math.max.name Lib.Math.max.code 2 (some .int), Cond.methodLink RX4 68 yX4_isValue, Cond.static yX4_isValue, Cond.initialized RX4, Cond.code yX4_isValue cX4_isValue 1 (some .boolean), Cond.methodLink RX4 79 yX0_hasRange, Cond.instanceMethod yX0_hasRange, Cond.selects RX0 yX0_hasRange yX0_hasRange, Cond.initialized RX0, Cond.code yX0_hasRange cX0_hasRange 3 (some .boolean), Cond.fieldLink RX0 15 "MajorityIndex$Row" "length" "I", Cond.methodLink RX4 186 yX4_isShare, Cond.static yX4_isShare, Cond.code yX4_isShare cX4_isShare 2 (some .boolean), Cond.methodLink RX4 243 yX4_mostWithoutHeavy, Cond.static yX4_mostWithoutHeavy, Cond.code yX4_mostWithoutHeavy cX4_mostWithoutHeavy 3 (some .int), Cond.methodLink RX4 113 yX0_oftenIn, Cond.instanceMethod yX0_oftenIn, Cond.selects RX0 yX0_oftenIn yX0_oftenIn]
def wsX4_needs_r2 : List Cond := [Cond.code yX0_oftenIn cX0_oftenIn 6 (some .int), Cond.fieldLink RX0 9 "MajorityIndex$Row" "cell" "[I"]
def wsX4_needs : List Cond := .code yX4_needs cX4_needs 7 (some .int) :: ((wsX4_needs_r1 ++ wsX4_needs_r2) ++ wsX40 ++ wsX00)
def wsX4_spares_r1 : List Cond := [Cond.fieldLink RX4 12 "MajorityIndex" "row" "LMajorityIndex$Row;", Cond.methodLink RX4 96 Lib.Math.max.name, Cond.static Lib.Math.max.name, Cond.initialized "java/lang/Math", Cond.code Lib.Math.max.name Lib.Math.max.code 2 (some .int), Cond.methodLink RX4 68 yX4_isValue, Cond.static yX4_isValue, Cond.initialized RX4, Cond.code yX4_isValue cX4_isValue 1 (some .boolean), Cond.methodLink RX4 79 yX0_hasRange, Cond.instanceMethod yX0_hasRange, Cond.selects RX0 yX0_hasRange yX0_hasRange, Cond.initialized RX0, Cond.code yX0_hasRange cX0_hasRange 3 (some .boolean), Cond.fieldLink RX0 15 "MajorityIndex$Row" "length" "I", Cond.methodLink RX4 186 yX4_isShare, Cond.static yX4_isShare, Cond.code yX4_isShare cX4_isShare 2 (some .boolean), Cond.methodLink RX4 113 yX0_oftenIn, Cond.instanceMethod yX0_oftenIn, Cond.selects RX0 yX0_oftenIn yX0_oftenIn, Cond.code yX0_oftenIn cX0_oftenIn 6 (some .int), Cond.fieldLink RX0 9 "MajorityIndex$Row" "cell" "[I", Cond.methodLink RX4 243 yX4_mostWithoutHeavy]
def wsX4_spares_r2 : List Cond := [Cond.static yX4_mostWithoutHeavy, Cond.code yX4_mostWithoutHeavy cX4_mostWithoutHeavy 3 (some .int)]
def wsX4_spares : List Cond := .code yX4_spares cX4_spares 6 (some .int) :: ((wsX4_spares_r1 ++ wsX4_spares_r2) ++ wsX40 ++ wsX00)
def wsX4_would_r1 : List Cond := [Cond.fieldLink RX4 12 "MajorityIndex" "row" "LMajorityIndex$Row;", Cond.constant RX4 102 (-40000), Cond.fieldLink RX4 110 "MajorityIndex$Row" "cell" "[I", Cond.methodLink RX4 64 yX0_hasPlace, Cond.instanceMethod yX0_hasPlace, Cond.selects RX0 yX0_hasPlace yX0_hasPlace, Cond.initialized RX0, Cond.code yX0_hasPlace cX0_hasPlace 2 (some .boolean), Cond.fieldLink RX0 15 "MajorityIndex$Row" "length" "I", Cond.methodLink RX4 68 yX4_isValue, Cond.static yX4_isValue, Cond.initialized RX4, Cond.code yX4_isValue cX4_isValue 1 (some .boolean), Cond.methodLink RX4 79 yX0_hasRange, Cond.instanceMethod yX0_hasRange, Cond.selects RX0 yX0_hasRange yX0_hasRange, Cond.code yX0_hasRange cX0_hasRange 3 (some .boolean), Cond.methodLink RX4 207 yX0_leader, Cond.instanceMethod yX0_leader, Cond.selects RX0 yX0_leader yX0_leader, Cond.code yX0_leader cX0_leader 6 (some .int), Cond.constant RX0 23 (-40000), Cond.fieldLink RX0 9 "MajorityIndex$Row" "cell" "[I", Cond.methodLink RX0 24 yX0_oftenIn]
def wsX4_would_r2 : List Cond := [Cond.instanceMethod yX0_oftenIn, Cond.selects RX0 yX0_oftenIn yX0_oftenIn, Cond.code yX0_oftenIn cX0_oftenIn 6 (some .int), Cond.static yX4_isHeavy, Cond.code yX4_isHeavy cX4_isHeavy 4 (some .boolean)]
def wsX4_would : List Cond := .code yX4_would cX4_would 7 (some .int) :: ((wsX4_would_r1 ++ wsX4_would_r2) ++ wsX40 ++ wsX00)
set_option maxRecDepth 20000 in
theorem ggX4_count_X4_isValue : GoodIn wsX4_count wsX4_isValue := goodIn_r _ [5] rfl (by decide +kernel)
set_option maxRecDepth 20000 in
theorem gX4_count_X4_isValue : GoodIn wsX4_count (va_wsS RX4 68 yX4_isValue wsX4_isValue) := goodIn_app (goodIn_r _ [2, 3, 4] rfl (by decide +kernel)) ggX4_count_X4_isValue
set_option maxRecDepth 20000 in
theorem ggX4_count_X0_hasRange : GoodIn wsX4_count wsX0_hasRange := goodIn_r _ [10, 11, 26, 27] rfl (by decide +kernel)
set_option maxRecDepth 20000 in
theorem gX4_count_X0_hasRange : GoodIn wsX4_count (wsV RX4 79 RX0 yX0_hasRange wsX0_hasRange) := goodIn_app (goodIn_r _ [6, 7, 8, 9] rfl (by decide +kernel)) ggX4_count_X0_hasRange
set_option maxRecDepth 20000 in
theorem ggX4_count_X0_oftenIn : GoodIn wsX4_count wsX0_oftenIn := goodIn_r _ [15, 16, 26, 27] rfl (by decide +kernel)
set_option maxRecDepth 20000 in
theorem gX4_count_X0_oftenIn : GoodIn wsX4_count (wsV RX4 113 RX0 yX0_oftenIn wsX0_oftenIn) := goodIn_app (goodIn_r _ [12, 13, 14, 9] rfl (by decide +kernel)) ggX4_count_X0_oftenIn
def dt_cX4_count_0 : List (Nat × Nat × Nat × Nat) := [(0, 27, 0, 0), (1, 184, 2, 68), (4, 153, 2, 15), (7, 42, 0, 0), (8, 180, 2, 12), (11, 28, 0, 0), (12, 29, 0, 0), (13, 182, 2, 79), (16, 154, 2, 5), (19, 2, 0, 0), (20, 172, 0, 0), (21, 42, 0, 0), (22, 180, 2, 12), (25, 27, 0, 0), (26, 28, 0, 0), (27, 29, 0, 0), (28, 182, 2, 113), (31, 172, 0, 0)]
theorem da_cX4_count_0 : fw dt_cX4_count_0 0 cX4_count.data.toList = true := by decide +kernel
theorem dX4_count_0 : decode cX4_count 0 = .ok (.iload_n 1, 1) := fo_27 (fw_get da_cX4_count_0 0 rfl)
theorem dX4_count_1 : decode cX4_count 1 = .ok (.invokestatic 68, 3) := fo_184 (fw_get da_cX4_count_0 1 rfl)
theorem dX4_count_4 : decode cX4_count 4 = .ok (.ifCond .eq 15, 3) := fo_153 (fw_get da_cX4_count_0 2 rfl) (by decide +kernel)
theorem dX4_count_7 : decode cX4_count 7 = .ok (.aload_n 0, 1) := fo_42 (fw_get da_cX4_count_0 3 rfl)
theorem dX4_count_8 : decode cX4_count 8 = .ok (.getfield 12, 3) := fo_180 (fw_get da_cX4_count_0 4 rfl)
theorem dX4_count_11 : decode cX4_count 11 = .ok (.iload_n 2, 1) := fo_28 (fw_get da_cX4_count_0 5 rfl)
theorem dX4_count_12 : decode cX4_count 12 = .ok (.iload_n 3, 1) := fo_29 (fw_get da_cX4_count_0 6 rfl)
theorem dX4_count_13 : decode cX4_count 13 = .ok (.invokevirtual 79, 3) := fo_182 (fw_get da_cX4_count_0 7 rfl)
theorem dX4_count_16 : decode cX4_count 16 = .ok (.ifCond .ne 5, 3) := fo_154 (fw_get da_cX4_count_0 8 rfl) (by decide +kernel)
theorem dX4_count_19 : decode cX4_count 19 = .ok (.iconst (-1), 1) := fo_2 (fw_get da_cX4_count_0 9 rfl)
theorem dX4_count_20 : decode cX4_count 20 = .ok (.ireturn, 1) := fo_172 (fw_get da_cX4_count_0 10 rfl)
theorem dX4_count_21 : decode cX4_count 21 = .ok (.aload_n 0, 1) := fo_42 (fw_get da_cX4_count_0 11 rfl)
theorem dX4_count_22 : decode cX4_count 22 = .ok (.getfield 12, 3) := fo_180 (fw_get da_cX4_count_0 12 rfl)
theorem dX4_count_25 : decode cX4_count 25 = .ok (.iload_n 1, 1) := fo_27 (fw_get da_cX4_count_0 13 rfl)
theorem dX4_count_26 : decode cX4_count 26 = .ok (.iload_n 2, 1) := fo_28 (fw_get da_cX4_count_0 14 rfl)
theorem dX4_count_27 : decode cX4_count 27 = .ok (.iload_n 3, 1) := fo_29 (fw_get da_cX4_count_0 15 rfl)
theorem dX4_count_28 : decode cX4_count 28 = .ok (.invokevirtual 113, 3) := fo_182 (fw_get da_cX4_count_0 16 rfl)
theorem dX4_count_31 : decode cX4_count 31 = .ok (.ireturn, 1) := fo_172 (fw_get da_cX4_count_0 17 rfl)
def dt_cX4_place_0 : List (Nat × Nat × Nat × Nat) := [(0, 28, 0, 0), (1, 156, 2, 5), (4, 2, 0, 0), (5, 172, 0, 0), (6, 3, 0, 0), (7, 62, 0, 0), (8, 3, 0, 0), (9, 54, 1, 4), (11, 21, 1, 4), (13, 42, 0, 0), (14, 180, 2, 12), (17, 180, 2, 57), (20, 162, 2, 34), (23, 42, 0, 0), (24, 180, 2, 12), (27, 180, 2, 110), (30, 21, 1, 4), (32, 46, 0, 0), (33, 27, 0, 0), (34, 160, 2, 14)]
theorem da_cX4_place_0 : fw dt_cX4_place_0 0 cX4_place.data.toList = true := by decide +kernel
theorem dX4_place_0 : decode cX4_place 0 = .ok (.iload_n 2, 1) := fo_28 (fw_get da_cX4_place_0 0 rfl)
theorem dX4_place_1 : decode cX4_place 1 = .ok (.ifCond .ge 5, 3) := fo_156 (fw_get da_cX4_place_0 1 rfl) (by decide +kernel)
theorem dX4_place_4 : decode cX4_place 4 = .ok (.iconst (-1), 1) := fo_2 (fw_get da_cX4_place_0 2 rfl)
theorem dX4_place_5 : decode cX4_place 5 = .ok (.ireturn, 1) := fo_172 (fw_get da_cX4_place_0 3 rfl)
theorem dX4_place_6 : decode cX4_place 6 = .ok (.iconst 0, 1) := fo_3 (fw_get da_cX4_place_0 4 rfl)
theorem dX4_place_7 : decode cX4_place 7 = .ok (.istore_n 3, 1) := fo_62 (fw_get da_cX4_place_0 5 rfl)
theorem dX4_place_8 : decode cX4_place 8 = .ok (.iconst 0, 1) := fo_3 (fw_get da_cX4_place_0 6 rfl)
theorem dX4_place_9 : decode cX4_place 9 = .ok (.istore 4, 2) := fo_54 (fw_get da_cX4_place_0 7 rfl)
theorem dX4_place_11 : decode cX4_place 11 = .ok (.iload 4, 2) := fo_21 (fw_get da_cX4_place_0 8 rfl)
theorem dX4_place_13 : decode cX4_place 13 = .ok (.aload_n 0, 1) := fo_42 (fw_get da_cX4_place_0 9 rfl)
theorem dX4_place_14 : decode cX4_place 14 = .ok (.getfield 12, 3) := fo_180 (fw_get da_cX4_place_0 10 rfl)
theorem dX4_place_17 : decode cX4_place 17 = .ok (.getfield 57, 3) := fo_180 (fw_get da_cX4_place_0 11 rfl)
theorem dX4_place_20 : decode cX4_place 20 = .ok (.if_icmp .ge 34, 3) := fo_162 (fw_get da_cX4_place_0 12 rfl) (by decide +kernel)
theorem dX4_place_23 : decode cX4_place 23 = .ok (.aload_n 0, 1) := fo_42 (fw_get da_cX4_place_0 13 rfl)
theorem dX4_place_24 : decode cX4_place 24 = .ok (.getfield 12, 3) := fo_180 (fw_get da_cX4_place_0 14 rfl)
theorem dX4_place_27 : decode cX4_place 27 = .ok (.getfield 110, 3) := fo_180 (fw_get da_cX4_place_0 15 rfl)
theorem dX4_place_30 : decode cX4_place 30 = .ok (.iload 4, 2) := fo_21 (fw_get da_cX4_place_0 16 rfl)
theorem dX4_place_32 : decode cX4_place 32 = .ok (.iaload, 1) := fo_46 (fw_get da_cX4_place_0 17 rfl)
theorem dX4_place_33 : decode cX4_place 33 = .ok (.iload_n 1, 1) := fo_27 (fw_get da_cX4_place_0 18 rfl)
theorem dX4_place_34 : decode cX4_place 34 = .ok (.if_icmp .ne 14, 3) := fo_160 (fw_get da_cX4_place_0 19 rfl) (by decide +kernel)
def dt_cX4_place_1 : List (Nat × Nat × Nat × Nat) := [(37, 29, 0, 0), (38, 28, 0, 0), (39, 160, 2, 6), (42, 21, 1, 4), (44, 172, 0, 0), (45, 132, 2, 769), (48, 132, 2, 1025), (51, 167, 2, 65496), (54, 2, 0, 0), (55, 172, 0, 0)]
theorem da_cX4_place_1 : fw dt_cX4_place_1 0 cX4_place.data.toList = true := by decide +kernel
theorem dX4_place_37 : decode cX4_place 37 = .ok (.iload_n 3, 1) := fo_29 (fw_get da_cX4_place_1 0 rfl)
theorem dX4_place_38 : decode cX4_place 38 = .ok (.iload_n 2, 1) := fo_28 (fw_get da_cX4_place_1 1 rfl)
theorem dX4_place_39 : decode cX4_place 39 = .ok (.if_icmp .ne 6, 3) := fo_160 (fw_get da_cX4_place_1 2 rfl) (by decide +kernel)
theorem dX4_place_42 : decode cX4_place 42 = .ok (.iload 4, 2) := fo_21 (fw_get da_cX4_place_1 3 rfl)
theorem dX4_place_44 : decode cX4_place 44 = .ok (.ireturn, 1) := fo_172 (fw_get da_cX4_place_1 4 rfl)
theorem dX4_place_45 : decode cX4_place 45 = .ok (.iinc 3 1, 3) := fo_132 (fw_get da_cX4_place_1 5 rfl) rfl (by decide +kernel)
theorem dX4_place_48 : decode cX4_place 48 = .ok (.iinc 4 1, 3) := fo_132 (fw_get da_cX4_place_1 6 rfl) rfl (by decide +kernel)
theorem dX4_place_51 : decode cX4_place 51 = .ok (.goto (-40), 3) := fo_167 (fw_get da_cX4_place_1 7 rfl) (by decide +kernel)
theorem dX4_place_54 : decode cX4_place 54 = .ok (.iconst (-1), 1) := fo_2 (fw_get da_cX4_place_1 8 rfl)
theorem dX4_place_55 : decode cX4_place 55 = .ok (.ireturn, 1) := fo_172 (fw_get da_cX4_place_1 9 rfl)
set_option maxRecDepth 20000 in
theorem ggX4_values_X1_learn : GoodIn wsX4_values wsX1_learn := goodIn_r _ [9, 10, 11, 12, 13, 14, 15, 16, 17, 27, 28, 29, 30, 31, 32] rfl (by decide +kernel)
set_option maxRecDepth 20000 in
theorem gX4_values_X1_learn : GoodIn wsX4_values (wsV RX4 117 RX1 yX1_learn wsX1_learn) := goodIn_app (goodIn_r _ [5, 6, 7, 8] rfl (by decide +kernel)) ggX4_values_X1_learn
def dt_cX4_values_0 : List (Nat × Nat × Nat × Nat) := [(0, 42, 0, 0), (1, 180, 2, 28), (4, 42, 0, 0), (5, 180, 2, 12), (8, 182, 2, 117), (11, 3, 0, 0), (12, 60, 0, 0), (13, 3, 0, 0), (14, 61, 0, 0), (15, 28, 0, 0), (16, 42, 0, 0), (17, 180, 2, 12), (20, 180, 2, 57), (23, 162, 2, 25), (26, 42, 0, 0), (27, 180, 2, 28), (30, 180, 2, 120), (33, 28, 0, 0), (34, 46, 0, 0), (35, 28, 0, 0)]
theorem da_cX4_values_0 : fw dt_cX4_values_0 0 cX4_values.data.toList = true := by decide +kernel
theorem dX4_values_0 : decode cX4_values 0 = .ok (.aload_n 0, 1) := fo_42 (fw_get da_cX4_values_0 0 rfl)
theorem dX4_values_1 : decode cX4_values 1 = .ok (.getfield 28, 3) := fo_180 (fw_get da_cX4_values_0 1 rfl)
theorem dX4_values_4 : decode cX4_values 4 = .ok (.aload_n 0, 1) := fo_42 (fw_get da_cX4_values_0 2 rfl)
theorem dX4_values_5 : decode cX4_values 5 = .ok (.getfield 12, 3) := fo_180 (fw_get da_cX4_values_0 3 rfl)
theorem dX4_values_8 : decode cX4_values 8 = .ok (.invokevirtual 117, 3) := fo_182 (fw_get da_cX4_values_0 4 rfl)
theorem dX4_values_11 : decode cX4_values 11 = .ok (.iconst 0, 1) := fo_3 (fw_get da_cX4_values_0 5 rfl)
theorem dX4_values_12 : decode cX4_values 12 = .ok (.istore_n 1, 1) := fo_60 (fw_get da_cX4_values_0 6 rfl)
theorem dX4_values_13 : decode cX4_values 13 = .ok (.iconst 0, 1) := fo_3 (fw_get da_cX4_values_0 7 rfl)
theorem dX4_values_14 : decode cX4_values 14 = .ok (.istore_n 2, 1) := fo_61 (fw_get da_cX4_values_0 8 rfl)
theorem dX4_values_15 : decode cX4_values 15 = .ok (.iload_n 2, 1) := fo_28 (fw_get da_cX4_values_0 9 rfl)
theorem dX4_values_16 : decode cX4_values 16 = .ok (.aload_n 0, 1) := fo_42 (fw_get da_cX4_values_0 10 rfl)
theorem dX4_values_17 : decode cX4_values 17 = .ok (.getfield 12, 3) := fo_180 (fw_get da_cX4_values_0 11 rfl)
theorem dX4_values_20 : decode cX4_values 20 = .ok (.getfield 57, 3) := fo_180 (fw_get da_cX4_values_0 12 rfl)
theorem dX4_values_23 : decode cX4_values 23 = .ok (.if_icmp .ge 25, 3) := fo_162 (fw_get da_cX4_values_0 13 rfl) (by decide +kernel)
theorem dX4_values_26 : decode cX4_values 26 = .ok (.aload_n 0, 1) := fo_42 (fw_get da_cX4_values_0 14 rfl)
theorem dX4_values_27 : decode cX4_values 27 = .ok (.getfield 28, 3) := fo_180 (fw_get da_cX4_values_0 15 rfl)
theorem dX4_values_30 : decode cX4_values 30 = .ok (.getfield 120, 3) := fo_180 (fw_get da_cX4_values_0 16 rfl)
theorem dX4_values_33 : decode cX4_values 33 = .ok (.iload_n 2, 1) := fo_28 (fw_get da_cX4_values_0 17 rfl)
theorem dX4_values_34 : decode cX4_values 34 = .ok (.iaload, 1) := fo_46 (fw_get da_cX4_values_0 18 rfl)
theorem dX4_values_35 : decode cX4_values 35 = .ok (.iload_n 2, 1) := fo_28 (fw_get da_cX4_values_0 19 rfl)
def dt_cX4_values_1 : List (Nat × Nat × Nat × Nat) := [(36, 160, 2, 6), (39, 132, 2, 257), (42, 132, 2, 513), (45, 167, 2, 65506), (48, 27, 0, 0), (49, 172, 0, 0)]
theorem da_cX4_values_1 : fw dt_cX4_values_1 0 cX4_values.data.toList = true := by decide +kernel
theorem dX4_values_36 : decode cX4_values 36 = .ok (.if_icmp .ne 6, 3) := fo_160 (fw_get da_cX4_values_1 0 rfl) (by decide +kernel)
theorem dX4_values_39 : decode cX4_values 39 = .ok (.iinc 1 1, 3) := fo_132 (fw_get da_cX4_values_1 1 rfl) rfl (by decide +kernel)
theorem dX4_values_42 : decode cX4_values 42 = .ok (.iinc 2 1, 3) := fo_132 (fw_get da_cX4_values_1 2 rfl) rfl (by decide +kernel)
theorem dX4_values_45 : decode cX4_values 45 = .ok (.goto (-30), 3) := fo_167 (fw_get da_cX4_values_1 3 rfl) (by decide +kernel)
theorem dX4_values_48 : decode cX4_values 48 = .ok (.iload_n 1, 1) := fo_27 (fw_get da_cX4_values_1 4 rfl)
theorem dX4_values_49 : decode cX4_values 49 = .ok (.ireturn, 1) := fo_172 (fw_get da_cX4_values_1 5 rfl)
set_option maxRecDepth 20000 in
theorem ggX4_majority_X0_hasRange : GoodIn wsX4_majority wsX0_hasRange := goodIn_r _ [7, 8, 31, 32] rfl (by decide +kernel)
set_option maxRecDepth 20000 in
theorem gX4_majority_X0_hasRange : GoodIn wsX4_majority (wsV RX4 79 RX0 yX0_hasRange wsX0_hasRange) := goodIn_app (goodIn_r _ [3, 4, 5, 6] rfl (by decide +kernel)) ggX4_majority_X0_hasRange
set_option maxRecDepth 20000 in
theorem ggX4_majority_X0_leader : GoodIn wsX4_majority wsX0_leader := goodIn_r _ [12, 13, 14, 15, 16, 17, 6, 18, 19, 20, 21, 31, 32] rfl (by decide +kernel)
set_option maxRecDepth 20000 in
theorem gX4_majority_X0_leader : GoodIn wsX4_majority (wsV RX4 207 RX0 yX0_leader wsX0_leader) := goodIn_app (goodIn_r _ [9, 10, 11, 6] rfl (by decide +kernel)) ggX4_majority_X0_leader
def dt_cX4_majority_0 : List (Nat × Nat × Nat × Nat) := [(0, 42, 0, 0), (1, 180, 2, 12), (4, 27, 0, 0), (5, 28, 0, 0), (6, 182, 2, 79), (9, 153, 2, 15), (12, 42, 0, 0), (13, 180, 2, 12), (16, 27, 0, 0), (17, 28, 0, 0), (18, 182, 2, 207), (21, 167, 2, 5), (24, 18, 1, 102), (26, 172, 0, 0)]
theorem da_cX4_majority_0 : fw dt_cX4_majority_0 0 cX4_majority.data.toList = true := by decide +kernel
theorem dX4_majority_0 : decode cX4_majority 0 = .ok (.aload_n 0, 1) := fo_42 (fw_get da_cX4_majority_0 0 rfl)
theorem dX4_majority_1 : decode cX4_majority 1 = .ok (.getfield 12, 3) := fo_180 (fw_get da_cX4_majority_0 1 rfl)
theorem dX4_majority_4 : decode cX4_majority 4 = .ok (.iload_n 1, 1) := fo_27 (fw_get da_cX4_majority_0 2 rfl)
theorem dX4_majority_5 : decode cX4_majority 5 = .ok (.iload_n 2, 1) := fo_28 (fw_get da_cX4_majority_0 3 rfl)
theorem dX4_majority_6 : decode cX4_majority 6 = .ok (.invokevirtual 79, 3) := fo_182 (fw_get da_cX4_majority_0 4 rfl)
theorem dX4_majority_9 : decode cX4_majority 9 = .ok (.ifCond .eq 15, 3) := fo_153 (fw_get da_cX4_majority_0 5 rfl) (by decide +kernel)
theorem dX4_majority_12 : decode cX4_majority 12 = .ok (.aload_n 0, 1) := fo_42 (fw_get da_cX4_majority_0 6 rfl)
theorem dX4_majority_13 : decode cX4_majority 13 = .ok (.getfield 12, 3) := fo_180 (fw_get da_cX4_majority_0 7 rfl)
theorem dX4_majority_16 : decode cX4_majority 16 = .ok (.iload_n 1, 1) := fo_27 (fw_get da_cX4_majority_0 8 rfl)
theorem dX4_majority_17 : decode cX4_majority 17 = .ok (.iload_n 2, 1) := fo_28 (fw_get da_cX4_majority_0 9 rfl)
theorem dX4_majority_18 : decode cX4_majority 18 = .ok (.invokevirtual 207, 3) := fo_182 (fw_get da_cX4_majority_0 10 rfl)
theorem dX4_majority_21 : decode cX4_majority 21 = .ok (.goto 5, 3) := fo_167 (fw_get da_cX4_majority_0 11 rfl) (by decide +kernel)
theorem dX4_majority_24 : decode cX4_majority 24 = .ok (.ldc 102, 2) := fo_18 (fw_get da_cX4_majority_0 12 rfl)
theorem dX4_majority_26 : decode cX4_majority 26 = .ok (.ireturn, 1) := fo_172 (fw_get da_cX4_majority_0 13 rfl)
set_option maxRecDepth 20000 in
theorem ggX4_margin_X4_isValue : GoodIn wsX4_margin wsX4_isValue := goodIn_r _ [6] rfl (by decide +kernel)
set_option maxRecDepth 20000 in
theorem gX4_margin_X4_isValue : GoodIn wsX4_margin (va_wsS RX4 68 yX4_isValue wsX4_isValue) := goodIn_app (goodIn_r _ [3, 4, 5] rfl (by decide +kernel)) ggX4_margin_X4_isValue
set_option maxRecDepth 20000 in
theorem ggX4_margin_X0_hasRange : GoodIn wsX4_margin wsX0_hasRange := goodIn_r _ [11, 12, 27, 28] rfl (by decide +kernel)
set_option maxRecDepth 20000 in
theorem gX4_margin_X0_hasRange : GoodIn wsX4_margin (wsV RX4 79 RX0 yX0_hasRange wsX0_hasRange) := goodIn_app (goodIn_r _ [7, 8, 9, 10] rfl (by decide +kernel)) ggX4_margin_X0_hasRange
set_option maxRecDepth 20000 in
theorem ggX4_margin_X0_oftenIn : GoodIn wsX4_margin wsX0_oftenIn := goodIn_r _ [16, 17, 27, 28] rfl (by decide +kernel)
set_option maxRecDepth 20000 in
theorem gX4_margin_X0_oftenIn : GoodIn wsX4_margin (wsV RX4 113 RX0 yX0_oftenIn wsX0_oftenIn) := goodIn_app (goodIn_r _ [13, 14, 15, 10] rfl (by decide +kernel)) ggX4_margin_X0_oftenIn
def dt_cX4_margin_0 : List (Nat × Nat × Nat × Nat) := [(0, 27, 0, 0), (1, 184, 2, 68), (4, 153, 2, 15), (7, 42, 0, 0), (8, 180, 2, 12), (11, 28, 0, 0), (12, 29, 0, 0), (13, 182, 2, 79), (16, 154, 2, 6), (19, 18, 1, 102), (21, 172, 0, 0), (22, 5, 0, 0), (23, 42, 0, 0), (24, 180, 2, 12), (27, 27, 0, 0), (28, 28, 0, 0), (29, 29, 0, 0), (30, 182, 2, 113), (33, 104, 0, 0), (34, 29, 0, 0)]
theorem da_cX4_margin_0 : fw dt_cX4_margin_0 0 cX4_margin.data.toList = true := by decide +kernel
theorem dX4_margin_0 : decode cX4_margin 0 = .ok (.iload_n 1, 1) := fo_27 (fw_get da_cX4_margin_0 0 rfl)
theorem dX4_margin_1 : decode cX4_margin 1 = .ok (.invokestatic 68, 3) := fo_184 (fw_get da_cX4_margin_0 1 rfl)
theorem dX4_margin_4 : decode cX4_margin 4 = .ok (.ifCond .eq 15, 3) := fo_153 (fw_get da_cX4_margin_0 2 rfl) (by decide +kernel)
theorem dX4_margin_7 : decode cX4_margin 7 = .ok (.aload_n 0, 1) := fo_42 (fw_get da_cX4_margin_0 3 rfl)
theorem dX4_margin_8 : decode cX4_margin 8 = .ok (.getfield 12, 3) := fo_180 (fw_get da_cX4_margin_0 4 rfl)
theorem dX4_margin_11 : decode cX4_margin 11 = .ok (.iload_n 2, 1) := fo_28 (fw_get da_cX4_margin_0 5 rfl)
theorem dX4_margin_12 : decode cX4_margin 12 = .ok (.iload_n 3, 1) := fo_29 (fw_get da_cX4_margin_0 6 rfl)
theorem dX4_margin_13 : decode cX4_margin 13 = .ok (.invokevirtual 79, 3) := fo_182 (fw_get da_cX4_margin_0 7 rfl)
theorem dX4_margin_16 : decode cX4_margin 16 = .ok (.ifCond .ne 6, 3) := fo_154 (fw_get da_cX4_margin_0 8 rfl) (by decide +kernel)
theorem dX4_margin_19 : decode cX4_margin 19 = .ok (.ldc 102, 2) := fo_18 (fw_get da_cX4_margin_0 9 rfl)
theorem dX4_margin_21 : decode cX4_margin 21 = .ok (.ireturn, 1) := fo_172 (fw_get da_cX4_margin_0 10 rfl)
theorem dX4_margin_22 : decode cX4_margin 22 = .ok (.iconst 2, 1) := fo_5 (fw_get da_cX4_margin_0 11 rfl)
theorem dX4_margin_23 : decode cX4_margin 23 = .ok (.aload_n 0, 1) := fo_42 (fw_get da_cX4_margin_0 12 rfl)
theorem dX4_margin_24 : decode cX4_margin 24 = .ok (.getfield 12, 3) := fo_180 (fw_get da_cX4_margin_0 13 rfl)
theorem dX4_margin_27 : decode cX4_margin 27 = .ok (.iload_n 1, 1) := fo_27 (fw_get da_cX4_margin_0 14 rfl)
theorem dX4_margin_28 : decode cX4_margin 28 = .ok (.iload_n 2, 1) := fo_28 (fw_get da_cX4_margin_0 15 rfl)
theorem dX4_margin_29 : decode cX4_margin 29 = .ok (.iload_n 3, 1) := fo_29 (fw_get da_cX4_margin_0 16 rfl)
theorem dX4_margin_30 : decode cX4_margin 30 = .ok (.invokevirtual 113, 3) := fo_182 (fw_get da_cX4_margin_0 17 rfl)
theorem dX4_margin_33 : decode cX4_margin 33 = .ok (.imul, 1) := fo_104 (fw_get da_cX4_margin_0 18 rfl)
theorem dX4_margin_34 : decode cX4_margin 34 = .ok (.iload_n 3, 1) := fo_29 (fw_get da_cX4_margin_0 19 rfl)
def dt_cX4_margin_1 : List (Nat × Nat × Nat × Nat) := [(35, 28, 0, 0), (36, 100, 0, 0), (37, 100, 0, 0), (38, 172, 0, 0)]
theorem da_cX4_margin_1 : fw dt_cX4_margin_1 0 cX4_margin.data.toList = true := by decide +kernel
theorem dX4_margin_35 : decode cX4_margin 35 = .ok (.iload_n 2, 1) := fo_28 (fw_get da_cX4_margin_1 0 rfl)
theorem dX4_margin_36 : decode cX4_margin 36 = .ok (.isub, 1) := fo_100 (fw_get da_cX4_margin_1 1 rfl)
theorem dX4_margin_37 : decode cX4_margin 37 = .ok (.isub, 1) := fo_100 (fw_get da_cX4_margin_1 2 rfl)
theorem dX4_margin_38 : decode cX4_margin 38 = .ok (.ireturn, 1) := fo_172 (fw_get da_cX4_margin_1 3 rfl)
set_option maxRecDepth 20000 in
theorem ggX4_longest_X4_isValue : GoodIn wsX4_longest wsX4_isValue := goodIn_r _ [6] rfl (by decide +kernel)
set_option maxRecDepth 20000 in
theorem gX4_longest_X4_isValue : GoodIn wsX4_longest (va_wsS RX4 68 yX4_isValue wsX4_isValue) := goodIn_app (goodIn_r _ [3, 4, 5] rfl (by decide +kernel)) ggX4_longest_X4_isValue
set_option maxRecDepth 20000 in
theorem ggX4_longest_X4_isShare : GoodIn wsX4_longest wsX4_isShare := goodIn_r _ [9] rfl (by decide +kernel)
set_option maxRecDepth 20000 in
theorem gX4_longest_X4_isShare : GoodIn wsX4_longest (va_wsS RX4 186 yX4_isShare wsX4_isShare) := goodIn_app (goodIn_r _ [7, 8, 5] rfl (by decide +kernel)) ggX4_longest_X4_isShare
set_option maxRecDepth 20000 in
theorem ggX4_longest_X4_farthestHeavy : GoodIn wsX4_longest wsX4_farthestHeavy := goodIn_r _ [13, 1, 2, 14, 15, 16, 5, 17, 18, 19, 20, 21, 22, 23, 24, 25, 26, 27, 28] rfl (by decide +kernel)
set_option maxRecDepth 20000 in
theorem gX4_longest_X4_farthestHeavy : GoodIn wsX4_longest (wsV RX4 218 RX4 yX4_farthestHeavy wsX4_farthestHeavy) := goodIn_app (goodIn_r _ [10, 11, 12, 5] rfl (by decide +kernel)) ggX4_longest_X4_farthestHeavy
def dt_cX4_longest_0 : List (Nat × Nat × Nat × Nat) := [(0, 27, 0, 0), (1, 184, 2, 68), (4, 153, 2, 22), (7, 28, 0, 0), (8, 29, 0, 0), (9, 184, 2, 186), (12, 153, 2, 14), (15, 21, 1, 4), (17, 155, 2, 9), (20, 21, 1, 4), (22, 4, 0, 0), (23, 164, 2, 5), (26, 2, 0, 0), (27, 172, 0, 0), (28, 2, 0, 0), (29, 54, 1, 5), (31, 2, 0, 0), (32, 54, 1, 6), (34, 3, 0, 0), (35, 54, 1, 7)]
theorem da_cX4_longest_0 : fw dt_cX4_longest_0 0 cX4_longest.data.toList = true := by decide +kernel
theorem dX4_longest_0 : decode cX4_longest 0 = .ok (.iload_n 1, 1) := fo_27 (fw_get da_cX4_longest_0 0 rfl)
theorem dX4_longest_1 : decode cX4_longest 1 = .ok (.invokestatic 68, 3) := fo_184 (fw_get da_cX4_longest_0 1 rfl)
theorem dX4_longest_4 : decode cX4_longest 4 = .ok (.ifCond .eq 22, 3) := fo_153 (fw_get da_cX4_longest_0 2 rfl) (by decide +kernel)
theorem dX4_longest_7 : decode cX4_longest 7 = .ok (.iload_n 2, 1) := fo_28 (fw_get da_cX4_longest_0 3 rfl)
theorem dX4_longest_8 : decode cX4_longest 8 = .ok (.iload_n 3, 1) := fo_29 (fw_get da_cX4_longest_0 4 rfl)
theorem dX4_longest_9 : decode cX4_longest 9 = .ok (.invokestatic 186, 3) := fo_184 (fw_get da_cX4_longest_0 5 rfl)
theorem dX4_longest_12 : decode cX4_longest 12 = .ok (.ifCond .eq 14, 3) := fo_153 (fw_get da_cX4_longest_0 6 rfl) (by decide +kernel)
theorem dX4_longest_15 : decode cX4_longest 15 = .ok (.iload 4, 2) := fo_21 (fw_get da_cX4_longest_0 7 rfl)
theorem dX4_longest_17 : decode cX4_longest 17 = .ok (.ifCond .lt 9, 3) := fo_155 (fw_get da_cX4_longest_0 8 rfl) (by decide +kernel)
theorem dX4_longest_20 : decode cX4_longest 20 = .ok (.iload 4, 2) := fo_21 (fw_get da_cX4_longest_0 9 rfl)
theorem dX4_longest_22 : decode cX4_longest 22 = .ok (.iconst 1, 1) := fo_4 (fw_get da_cX4_longest_0 10 rfl)
theorem dX4_longest_23 : decode cX4_longest 23 = .ok (.if_icmp .le 5, 3) := fo_164 (fw_get da_cX4_longest_0 11 rfl) (by decide +kernel)
theorem dX4_longest_26 : decode cX4_longest 26 = .ok (.iconst (-1), 1) := fo_2 (fw_get da_cX4_longest_0 12 rfl)
theorem dX4_longest_27 : decode cX4_longest 27 = .ok (.ireturn, 1) := fo_172 (fw_get da_cX4_longest_0 13 rfl)
theorem dX4_longest_28 : decode cX4_longest 28 = .ok (.iconst (-1), 1) := fo_2 (fw_get da_cX4_longest_0 14 rfl)
theorem dX4_longest_29 : decode cX4_longest 29 = .ok (.istore 5, 2) := fo_54 (fw_get da_cX4_longest_0 15 rfl)
theorem dX4_longest_31 : decode cX4_longest 31 = .ok (.iconst (-1), 1) := fo_2 (fw_get da_cX4_longest_0 16 rfl)
theorem dX4_longest_32 : decode cX4_longest 32 = .ok (.istore 6, 2) := fo_54 (fw_get da_cX4_longest_0 17 rfl)
theorem dX4_longest_34 : decode cX4_longest 34 = .ok (.iconst 0, 1) := fo_3 (fw_get da_cX4_longest_0 18 rfl)
theorem dX4_longest_35 : decode cX4_longest 35 = .ok (.istore 7, 2) := fo_54 (fw_get da_cX4_longest_0 19 rfl)
def dt_cX4_longest_1 : List (Nat × Nat × Nat × Nat) := [(37, 21, 1, 7), (39, 42, 0, 0), (40, 180, 2, 12), (43, 180, 2, 57), (46, 162, 2, 47), (49, 42, 0, 0), (50, 27, 0, 0), (51, 21, 1, 7), (53, 28, 0, 0), (54, 29, 0, 0), (55, 182, 2, 218), (58, 54, 1, 8), (60, 21, 1, 8), (62, 2, 0, 0), (63, 159, 2, 24), (66, 21, 1, 8), (68, 21, 1, 7), (70, 100, 0, 0), (71, 21, 1, 6), (73, 21, 1, 5)]
theorem da_cX4_longest_1 : fw dt_cX4_longest_1 0 cX4_longest.data.toList = true := by decide +kernel
theorem dX4_longest_37 : decode cX4_longest 37 = .ok (.iload 7, 2) := fo_21 (fw_get da_cX4_longest_1 0 rfl)
theorem dX4_longest_39 : decode cX4_longest 39 = .ok (.aload_n 0, 1) := fo_42 (fw_get da_cX4_longest_1 1 rfl)
theorem dX4_longest_40 : decode cX4_longest 40 = .ok (.getfield 12, 3) := fo_180 (fw_get da_cX4_longest_1 2 rfl)
theorem dX4_longest_43 : decode cX4_longest 43 = .ok (.getfield 57, 3) := fo_180 (fw_get da_cX4_longest_1 3 rfl)
theorem dX4_longest_46 : decode cX4_longest 46 = .ok (.if_icmp .ge 47, 3) := fo_162 (fw_get da_cX4_longest_1 4 rfl) (by decide +kernel)
theorem dX4_longest_49 : decode cX4_longest 49 = .ok (.aload_n 0, 1) := fo_42 (fw_get da_cX4_longest_1 5 rfl)
theorem dX4_longest_50 : decode cX4_longest 50 = .ok (.iload_n 1, 1) := fo_27 (fw_get da_cX4_longest_1 6 rfl)
theorem dX4_longest_51 : decode cX4_longest 51 = .ok (.iload 7, 2) := fo_21 (fw_get da_cX4_longest_1 7 rfl)
theorem dX4_longest_53 : decode cX4_longest 53 = .ok (.iload_n 2, 1) := fo_28 (fw_get da_cX4_longest_1 8 rfl)
theorem dX4_longest_54 : decode cX4_longest 54 = .ok (.iload_n 3, 1) := fo_29 (fw_get da_cX4_longest_1 9 rfl)
theorem dX4_longest_55 : decode cX4_longest 55 = .ok (.invokevirtual 218, 3) := fo_182 (fw_get da_cX4_longest_1 10 rfl)
theorem dX4_longest_58 : decode cX4_longest 58 = .ok (.istore 8, 2) := fo_54 (fw_get da_cX4_longest_1 11 rfl)
theorem dX4_longest_60 : decode cX4_longest 60 = .ok (.iload 8, 2) := fo_21 (fw_get da_cX4_longest_1 12 rfl)
theorem dX4_longest_62 : decode cX4_longest 62 = .ok (.iconst (-1), 1) := fo_2 (fw_get da_cX4_longest_1 13 rfl)
theorem dX4_longest_63 : decode cX4_longest 63 = .ok (.if_icmp .eq 24, 3) := fo_159 (fw_get da_cX4_longest_1 14 rfl) (by decide +kernel)
theorem dX4_longest_66 : decode cX4_longest 66 = .ok (.iload 8, 2) := fo_21 (fw_get da_cX4_longest_1 15 rfl)
theorem dX4_longest_68 : decode cX4_longest 68 = .ok (.iload 7, 2) := fo_21 (fw_get da_cX4_longest_1 16 rfl)
theorem dX4_longest_70 : decode cX4_longest 70 = .ok (.isub, 1) := fo_100 (fw_get da_cX4_longest_1 17 rfl)
theorem dX4_longest_71 : decode cX4_longest 71 = .ok (.iload 6, 2) := fo_21 (fw_get da_cX4_longest_1 18 rfl)
theorem dX4_longest_73 : decode cX4_longest 73 = .ok (.iload 5, 2) := fo_21 (fw_get da_cX4_longest_1 19 rfl)
def dt_cX4_longest_2 : List (Nat × Nat × Nat × Nat) := [(75, 100, 0, 0), (76, 164, 2, 11), (79, 21, 1, 7), (81, 54, 1, 5), (83, 21, 1, 8), (85, 54, 1, 6), (87, 132, 2, 1793), (90, 167, 2, 65483), (93, 21, 1, 4), (95, 154, 2, 8), (98, 21, 1, 5), (100, 167, 2, 5), (103, 21, 1, 6), (105, 172, 0, 0)]
theorem da_cX4_longest_2 : fw dt_cX4_longest_2 0 cX4_longest.data.toList = true := by decide +kernel
theorem dX4_longest_75 : decode cX4_longest 75 = .ok (.isub, 1) := fo_100 (fw_get da_cX4_longest_2 0 rfl)
theorem dX4_longest_76 : decode cX4_longest 76 = .ok (.if_icmp .le 11, 3) := fo_164 (fw_get da_cX4_longest_2 1 rfl) (by decide +kernel)
theorem dX4_longest_79 : decode cX4_longest 79 = .ok (.iload 7, 2) := fo_21 (fw_get da_cX4_longest_2 2 rfl)
theorem dX4_longest_81 : decode cX4_longest 81 = .ok (.istore 5, 2) := fo_54 (fw_get da_cX4_longest_2 3 rfl)
theorem dX4_longest_83 : decode cX4_longest 83 = .ok (.iload 8, 2) := fo_21 (fw_get da_cX4_longest_2 4 rfl)
theorem dX4_longest_85 : decode cX4_longest 85 = .ok (.istore 6, 2) := fo_54 (fw_get da_cX4_longest_2 5 rfl)
theorem dX4_longest_87 : decode cX4_longest 87 = .ok (.iinc 7 1, 3) := fo_132 (fw_get da_cX4_longest_2 6 rfl) rfl (by decide +kernel)
theorem dX4_longest_90 : decode cX4_longest 90 = .ok (.goto (-53), 3) := fo_167 (fw_get da_cX4_longest_2 7 rfl) (by decide +kernel)
theorem dX4_longest_93 : decode cX4_longest 93 = .ok (.iload 4, 2) := fo_21 (fw_get da_cX4_longest_2 8 rfl)
theorem dX4_longest_95 : decode cX4_longest 95 = .ok (.ifCond .ne 8, 3) := fo_154 (fw_get da_cX4_longest_2 9 rfl) (by decide +kernel)
theorem dX4_longest_98 : decode cX4_longest 98 = .ok (.iload 5, 2) := fo_21 (fw_get da_cX4_longest_2 10 rfl)
theorem dX4_longest_100 : decode cX4_longest 100 = .ok (.goto 5, 3) := fo_167 (fw_get da_cX4_longest_2 11 rfl) (by decide +kernel)
theorem dX4_longest_103 : decode cX4_longest 103 = .ok (.iload 6, 2) := fo_21 (fw_get da_cX4_longest_2 12 rfl)
theorem dX4_longest_105 : decode cX4_longest 105 = .ok (.ireturn, 1) := fo_172 (fw_get da_cX4_longest_2 13 rfl)
theorem mi_wsX4_reach_wsX4_reach_r1 : ∀ w ∈ wsX4_reach_r1, w ∈ wsX4_reach := fun _ h => (List.mem_cons_of_mem _ (List.mem_append_left _ (List.mem_append_left _ (List.mem_append_left _ (List.mem_append_left _ h)))))
theorem mi_wsX4_reach_wsX00 : ∀ w ∈ wsX00, w ∈ wsX4_reach := fun _ h => (List.mem_cons_of_mem _ (List.mem_append_left _ (List.mem_append_right _ h)))
set_option maxRecDepth 20000 in
theorem ggX4_reach_X0_hasPlace : GoodIn wsX4_reach wsX0_hasPlace := goodIn_m _ [(wsX4_reach_r1, [false, false, false, false, false, false, false, true, true]), (wsX00, [true, true])] (gm_c mi_wsX4_reach_wsX4_reach_r1 (gm_c mi_wsX4_reach_wsX00 gm_n)) rfl (by decide +kernel)
set_option maxRecDepth 20000 in
theorem gX4_reach_X0_hasPlace : GoodIn wsX4_reach (wsV RX4 64 RX0 yX0_hasPlace wsX0_hasPlace) := goodIn_app (goodIn_m _ [(wsX4_reach_r1, [false, false, false, true, true, true, true])] (gm_c mi_wsX4_reach_wsX4_reach_r1 gm_n) rfl (by decide +kernel)) ggX4_reach_X0_hasPlace
theorem mi_wsX4_reach_wsX10 : ∀ w ∈ wsX10, w ∈ wsX4_reach := fun _ h => (List.mem_cons_of_mem _ (List.mem_append_right _ h))
set_option maxRecDepth 20000 in
theorem ggX4_reach_X1_learn : GoodIn wsX4_reach wsX1_learn := goodIn_m _ [(wsX4_reach_r1, [false, false, false, false, false, false, false, false, false, false, false, false, false, true, true, true, true, true, true]), (wsX4_reach_r1, [false, false, false, false, false, false, true, false, false, false, false, false, false, false, false, false, false, false, false, true, true]), (wsX00, [true, true]), (wsX10, [true, true, true, true])] (gm_c mi_wsX4_reach_wsX4_reach_r1 (gm_c mi_wsX4_reach_wsX4_reach_r1 (gm_c mi_wsX4_reach_wsX00 (gm_c mi_wsX4_reach_wsX10 gm_n)))) rfl (by decide +kernel)
set_option maxRecDepth 20000 in
theorem gX4_reach_X1_learn : GoodIn wsX4_reach (wsV RX4 117 RX1 yX1_learn wsX1_learn) := goodIn_app (goodIn_m _ [(wsX4_reach_r1, [false, false, false, false, false, false, false, false, false, true, true, true, true])] (gm_c mi_wsX4_reach_wsX4_reach_r1 gm_n) rfl (by decide +kernel)) ggX4_reach_X1_learn
theorem mi_wsX4_reach_wsX4_reach_r2 : ∀ w ∈ wsX4_reach_r2, w ∈ wsX4_reach := fun _ h => (List.mem_cons_of_mem _ (List.mem_append_left _ (List.mem_append_left _ (List.mem_append_left _ (List.mem_append_right _ h)))))
set_option maxRecDepth 20000 in
theorem ggX4_reach_X1_clear : GoodIn wsX4_reach wsX1_clear := goodIn_m _ [(wsX4_reach_r2, [true, true, true, true, true, true, true, true]), (wsX10, [true, true, true, true])] (gm_c mi_wsX4_reach_wsX4_reach_r2 (gm_c mi_wsX4_reach_wsX10 gm_n)) rfl (by decide +kernel)
set_option maxRecDepth 20000 in
theorem gX4_reach_X1_clear : GoodIn wsX4_reach (wsV RX4 221 RX1 yX1_clear wsX1_clear) := goodIn_app (goodIn_m _ [(wsX4_reach_r1, [false, false, false, false, false, false, false, false, false, false, false, false, false, false, false, false, false, false, false, false, false, true, true, true]), (wsX4_reach_r1, [false, false, false, false, false, false, false, false, false, false, false, false, true])] (gm_c mi_wsX4_reach_wsX4_reach_r1 (gm_c mi_wsX4_reach_wsX4_reach_r1 gm_n)) rfl (by decide +kernel)) ggX4_reach_X1_clear
set_option maxRecDepth 20000 in
theorem ggX4_reach_X1_take : GoodIn wsX4_reach wsX1_take := goodIn_m _ [(wsX4_reach_r2, [false, false, false, false, false, false, false, false, false, false, false, true]), (wsX4_reach_r2, [false, true]), (wsX4_reach_r1, [false, false, false, false, false, false, false, false, false, false, false, false, false, false, false, true]), (wsX4_reach_r2, [false, false, true, true]), (wsX10, [true, true, true, true])] (gm_c mi_wsX4_reach_wsX4_reach_r2 (gm_c mi_wsX4_reach_wsX4_reach_r2 (gm_c mi_wsX4_reach_wsX4_reach_r1 (gm_c mi_wsX4_reach_wsX4_reach_r2 (gm_c mi_wsX4_reach_wsX10 gm_n))))) rfl (by decide +kernel)
set_option maxRecDepth 20000 in
theorem gX4_reach_X1_take : GoodIn wsX4_reach (wsV RX4 224 RX1 yX1_take wsX1_take) := goodIn_app (goodIn_m _ [(wsX4_reach_r2, [false, false, false, false, false, false, false, false, true, true, true]), (wsX4_reach_r1, [false, false, false, false, false, false, false, false, false, false, false, false, true])] (gm_c mi_wsX4_reach_wsX4_reach_r2 (gm_c mi_wsX4_reach_wsX4_reach_r1 gm_n)) rfl (by decide +kernel)) ggX4_reach_X1_take
set_option maxRecDepth 20000 in
theorem ggX4_reach_X1_hasMajority : GoodIn wsX4_reach wsX1_hasMajority := goodIn_m _ [(wsX4_reach_r2, [false, false, false, false, false, false, false, false, false, false, false, false, false, false, false, true]), (wsX4_reach_r2, [false, false, false, true]), (wsX4_reach_r2, [false, false, true]), (wsX10, [true, true, true, true])] (gm_c mi_wsX4_reach_wsX4_reach_r2 (gm_c mi_wsX4_reach_wsX4_reach_r2 (gm_c mi_wsX4_reach_wsX4_reach_r2 (gm_c mi_wsX4_reach_wsX10 gm_n)))) rfl (by decide +kernel)
set_option maxRecDepth 20000 in
theorem gX4_reach_X1_hasMajority : GoodIn wsX4_reach (wsV RX4 227 RX1 yX1_hasMajority wsX1_hasMajority) := goodIn_app (goodIn_m _ [(wsX4_reach_r2, [false, false, false, false, false, false, false, false, false, false, false, false, true, true, true]), (wsX4_reach_r1, [false, false, false, false, false, false, false, false, false, false, false, false, true])] (gm_c mi_wsX4_reach_wsX4_reach_r2 (gm_c mi_wsX4_reach_wsX4_reach_r1 gm_n)) rfl (by decide +kernel)) ggX4_reach_X1_hasMajority
def dt_cX4_reach_0 : List (Nat × Nat × Nat × Nat) := [(0, 42, 0, 0), (1, 180, 2, 12), (4, 27, 0, 0), (5, 182, 2, 64), (8, 154, 2, 5), (11, 2, 0, 0), (12, 172, 0, 0), (13, 42, 0, 0), (14, 180, 2, 28), (17, 42, 0, 0), (18, 180, 2, 12), (21, 182, 2, 117), (24, 42, 0, 0), (25, 180, 2, 28), (28, 182, 2, 221), (31, 2, 0, 0), (32, 61, 0, 0), (33, 27, 0, 0), (34, 62, 0, 0), (35, 29, 0, 0)]
theorem da_cX4_reach_0 : fw dt_cX4_reach_0 0 cX4_reach.data.toList = true := by decide +kernel
theorem dX4_reach_0 : decode cX4_reach 0 = .ok (.aload_n 0, 1) := fo_42 (fw_get da_cX4_reach_0 0 rfl)
theorem dX4_reach_1 : decode cX4_reach 1 = .ok (.getfield 12, 3) := fo_180 (fw_get da_cX4_reach_0 1 rfl)
theorem dX4_reach_4 : decode cX4_reach 4 = .ok (.iload_n 1, 1) := fo_27 (fw_get da_cX4_reach_0 2 rfl)
theorem dX4_reach_5 : decode cX4_reach 5 = .ok (.invokevirtual 64, 3) := fo_182 (fw_get da_cX4_reach_0 3 rfl)
theorem dX4_reach_8 : decode cX4_reach 8 = .ok (.ifCond .ne 5, 3) := fo_154 (fw_get da_cX4_reach_0 4 rfl) (by decide +kernel)
theorem dX4_reach_11 : decode cX4_reach 11 = .ok (.iconst (-1), 1) := fo_2 (fw_get da_cX4_reach_0 5 rfl)
theorem dX4_reach_12 : decode cX4_reach 12 = .ok (.ireturn, 1) := fo_172 (fw_get da_cX4_reach_0 6 rfl)
theorem dX4_reach_13 : decode cX4_reach 13 = .ok (.aload_n 0, 1) := fo_42 (fw_get da_cX4_reach_0 7 rfl)
theorem dX4_reach_14 : decode cX4_reach 14 = .ok (.getfield 28, 3) := fo_180 (fw_get da_cX4_reach_0 8 rfl)
theorem dX4_reach_17 : decode cX4_reach 17 = .ok (.aload_n 0, 1) := fo_42 (fw_get da_cX4_reach_0 9 rfl)
theorem dX4_reach_18 : decode cX4_reach 18 = .ok (.getfield 12, 3) := fo_180 (fw_get da_cX4_reach_0 10 rfl)
theorem dX4_reach_21 : decode cX4_reach 21 = .ok (.invokevirtual 117, 3) := fo_182 (fw_get da_cX4_reach_0 11 rfl)
theorem dX4_reach_24 : decode cX4_reach 24 = .ok (.aload_n 0, 1) := fo_42 (fw_get da_cX4_reach_0 12 rfl)
theorem dX4_reach_25 : decode cX4_reach 25 = .ok (.getfield 28, 3) := fo_180 (fw_get da_cX4_reach_0 13 rfl)
theorem dX4_reach_28 : decode cX4_reach 28 = .ok (.invokevirtual 221, 3) := fo_182 (fw_get da_cX4_reach_0 14 rfl)
theorem dX4_reach_31 : decode cX4_reach 31 = .ok (.iconst (-1), 1) := fo_2 (fw_get da_cX4_reach_0 15 rfl)
theorem dX4_reach_32 : decode cX4_reach 32 = .ok (.istore_n 2, 1) := fo_61 (fw_get da_cX4_reach_0 16 rfl)
theorem dX4_reach_33 : decode cX4_reach 33 = .ok (.iload_n 1, 1) := fo_27 (fw_get da_cX4_reach_0 17 rfl)
theorem dX4_reach_34 : decode cX4_reach 34 = .ok (.istore_n 3, 1) := fo_62 (fw_get da_cX4_reach_0 18 rfl)
theorem dX4_reach_35 : decode cX4_reach 35 = .ok (.iload_n 3, 1) := fo_29 (fw_get da_cX4_reach_0 19 rfl)
def dt_cX4_reach_1 : List (Nat × Nat × Nat × Nat) := [(36, 42, 0, 0), (37, 180, 2, 12), (40, 180, 2, 57), (43, 162, 2, 31), (46, 42, 0, 0), (47, 180, 2, 28), (50, 29, 0, 0), (51, 182, 2, 224), (54, 42, 0, 0), (55, 180, 2, 28), (58, 182, 2, 227), (61, 153, 2, 7), (64, 29, 0, 0), (65, 4, 0, 0), (66, 96, 0, 0), (67, 61, 0, 0), (68, 132, 2, 769), (71, 167, 2, 65500), (74, 28, 0, 0), (75, 172, 0, 0)]
theorem da_cX4_reach_1 : fw dt_cX4_reach_1 0 cX4_reach.data.toList = true := by decide +kernel
theorem dX4_reach_36 : decode cX4_reach 36 = .ok (.aload_n 0, 1) := fo_42 (fw_get da_cX4_reach_1 0 rfl)
theorem dX4_reach_37 : decode cX4_reach 37 = .ok (.getfield 12, 3) := fo_180 (fw_get da_cX4_reach_1 1 rfl)
theorem dX4_reach_40 : decode cX4_reach 40 = .ok (.getfield 57, 3) := fo_180 (fw_get da_cX4_reach_1 2 rfl)
theorem dX4_reach_43 : decode cX4_reach 43 = .ok (.if_icmp .ge 31, 3) := fo_162 (fw_get da_cX4_reach_1 3 rfl) (by decide +kernel)
theorem dX4_reach_46 : decode cX4_reach 46 = .ok (.aload_n 0, 1) := fo_42 (fw_get da_cX4_reach_1 4 rfl)
theorem dX4_reach_47 : decode cX4_reach 47 = .ok (.getfield 28, 3) := fo_180 (fw_get da_cX4_reach_1 5 rfl)
theorem dX4_reach_50 : decode cX4_reach 50 = .ok (.iload_n 3, 1) := fo_29 (fw_get da_cX4_reach_1 6 rfl)
theorem dX4_reach_51 : decode cX4_reach 51 = .ok (.invokevirtual 224, 3) := fo_182 (fw_get da_cX4_reach_1 7 rfl)
theorem dX4_reach_54 : decode cX4_reach 54 = .ok (.aload_n 0, 1) := fo_42 (fw_get da_cX4_reach_1 8 rfl)
theorem dX4_reach_55 : decode cX4_reach 55 = .ok (.getfield 28, 3) := fo_180 (fw_get da_cX4_reach_1 9 rfl)
theorem dX4_reach_58 : decode cX4_reach 58 = .ok (.invokevirtual 227, 3) := fo_182 (fw_get da_cX4_reach_1 10 rfl)
theorem dX4_reach_61 : decode cX4_reach 61 = .ok (.ifCond .eq 7, 3) := fo_153 (fw_get da_cX4_reach_1 11 rfl) (by decide +kernel)
theorem dX4_reach_64 : decode cX4_reach 64 = .ok (.iload_n 3, 1) := fo_29 (fw_get da_cX4_reach_1 12 rfl)
theorem dX4_reach_65 : decode cX4_reach 65 = .ok (.iconst 1, 1) := fo_4 (fw_get da_cX4_reach_1 13 rfl)
theorem dX4_reach_66 : decode cX4_reach 66 = .ok (.iadd, 1) := fo_96 (fw_get da_cX4_reach_1 14 rfl)
theorem dX4_reach_67 : decode cX4_reach 67 = .ok (.istore_n 2, 1) := fo_61 (fw_get da_cX4_reach_1 15 rfl)
theorem dX4_reach_68 : decode cX4_reach 68 = .ok (.iinc 3 1, 3) := fo_132 (fw_get da_cX4_reach_1 16 rfl) rfl (by decide +kernel)
theorem dX4_reach_71 : decode cX4_reach 71 = .ok (.goto (-36), 3) := fo_167 (fw_get da_cX4_reach_1 17 rfl) (by decide +kernel)
theorem dX4_reach_74 : decode cX4_reach 74 = .ok (.iload_n 2, 1) := fo_28 (fw_get da_cX4_reach_1 18 rfl)
theorem dX4_reach_75 : decode cX4_reach 75 = .ok (.ireturn, 1) := fo_172 (fw_get da_cX4_reach_1 19 rfl)
theorem mi_wsX4_parted_wsX4_parted_r1 : ∀ w ∈ wsX4_parted_r1, w ∈ wsX4_parted := fun _ h => (List.mem_cons_of_mem _ (List.mem_append_left _ (List.mem_append_left _ (List.mem_append_left _ (List.mem_append_left _ h)))))
theorem mi_wsX4_parted_wsX00 : ∀ w ∈ wsX00, w ∈ wsX4_parted := fun _ h => (List.mem_cons_of_mem _ (List.mem_append_left _ (List.mem_append_right _ h)))
set_option maxRecDepth 20000 in
theorem ggX4_parted_X0_hasRange : GoodIn wsX4_parted wsX0_hasRange := goodIn_m _ [(wsX4_parted_r1, [false, false, false, false, false, false, false, false, false, false, false, true, true]), (wsX00, [true, true])] (gm_c mi_wsX4_parted_wsX4_parted_r1 (gm_c mi_wsX4_parted_wsX00 gm_n)) rfl (by decide +kernel)
set_option maxRecDepth 20000 in
theorem gX4_parted_X0_hasRange : GoodIn wsX4_parted (wsV RX4 79 RX0 yX0_hasRange wsX0_hasRange) := goodIn_app (goodIn_m _ [(wsX4_parted_r1, [false, false, false, false, false, false, false, true, true, true, true])] (gm_c mi_wsX4_parted_wsX4_parted_r1 gm_n) rfl (by decide +kernel)) ggX4_parted_X0_hasRange
theorem mi_wsX4_parted_wsX4_parted_r2 : ∀ w ∈ wsX4_parted_r2, w ∈ wsX4_parted := fun _ h => (List.mem_cons_of_mem _ (List.mem_append_left _ (List.mem_append_left _ (List.mem_append_left _ (List.mem_append_right _ h)))))
theorem mi_wsX4_parted_wsX10 : ∀ w ∈ wsX10, w ∈ wsX4_parted := fun _ h => (List.mem_cons_of_mem _ (List.mem_append_right _ h))
set_option maxRecDepth 20000 in
theorem ggX4_parted_X1_learn : GoodIn wsX4_parted wsX1_learn := goodIn_m _ [(wsX4_parted_r1, [false, false, false, false, false, false, false, false, false, false, false, false, false, false, false, false, false, true, true, true, true, true, true]), (wsX4_parted_r1, [false, false, false, false, false, false, false, false, false, false, true, false, false, false, false, false, false, false, false, false, false, false, false, true]), (wsX4_parted_r2, [true]), (wsX00, [true, true]), (wsX10, [true, true, true, true])] (gm_c mi_wsX4_parted_wsX4_parted_r1 (gm_c mi_wsX4_parted_wsX4_parted_r1 (gm_c mi_wsX4_parted_wsX4_parted_r2 (gm_c mi_wsX4_parted_wsX00 (gm_c mi_wsX4_parted_wsX10 gm_n))))) rfl (by decide +kernel)
set_option maxRecDepth 20000 in
theorem gX4_parted_X1_learn : GoodIn wsX4_parted (wsV RX4 117 RX1 yX1_learn wsX1_learn) := goodIn_app (goodIn_m _ [(wsX4_parted_r1, [false, false, false, false, false, false, false, false, false, false, false, false, false, true, true, true, true])] (gm_c mi_wsX4_parted_wsX4_parted_r1 gm_n) rfl (by decide +kernel)) ggX4_parted_X1_learn
set_option maxRecDepth 20000 in
theorem ggX4_parted_J7_fill_53178 : GoodIn wsX4_parted wsJ7_fill_53178 := goodIn_m _ [(wsX4_parted_r2, [false, false, false, false, true])] (gm_c mi_wsX4_parted_wsX4_parted_r2 gm_n) rfl (by decide +kernel)
set_option maxRecDepth 20000 in
theorem gX4_parted_J7_fill_53178 : GoodIn wsX4_parted (va_wsS RX4 231 yJ7_fill_53178 wsJ7_fill_53178) := goodIn_app (goodIn_m _ [(wsX4_parted_r2, [false, true, true, true])] (gm_c mi_wsX4_parted_wsX4_parted_r2 gm_n) rfl (by decide +kernel)) ggX4_parted_J7_fill_53178
set_option maxRecDepth 20000 in
theorem ggX4_parted_X1_clear : GoodIn wsX4_parted wsX1_clear := goodIn_m _ [(wsX4_parted_r2, [false, false, false, false, false, false, false, false, true, true, true, true, true]), (wsX4_parted_r2, [false, false, true, true, true]), (wsX10, [true, true, true, true])] (gm_c mi_wsX4_parted_wsX4_parted_r2 (gm_c mi_wsX4_parted_wsX4_parted_r2 (gm_c mi_wsX4_parted_wsX10 gm_n))) rfl (by decide +kernel)
set_option maxRecDepth 20000 in
theorem gX4_parted_X1_clear : GoodIn wsX4_parted (wsV RX4 221 RX1 yX1_clear wsX1_clear) := goodIn_app (goodIn_m _ [(wsX4_parted_r2, [false, false, false, false, false, true, true, true]), (wsX4_parted_r1, [false, false, false, false, false, false, false, false, false, false, false, false, false, false, false, false, true])] (gm_c mi_wsX4_parted_wsX4_parted_r2 (gm_c mi_wsX4_parted_wsX4_parted_r1 gm_n)) rfl (by decide +kernel)) ggX4_parted_X1_clear
set_option maxRecDepth 20000 in
theorem ggX4_parted_X1_take : GoodIn wsX4_parted wsX1_take := goodIn_m _ [(wsX4_parted_r2, [false, false, false, false, false, false, false, false, false, false, false, false, false, false, false, false, true]), (wsX4_parted_r2, [false, false, false, false, false, false, false, false, false, true]), (wsX4_parted_r1, [false, false, false, false, false, false, false, false, false, false, false, false, false, false, false, false, false, false, false, true]), (wsX4_parted_r2, [false, false, false, false, false, false, false, false, false, false, true, true]), (wsX10, [true, true, true, true])] (gm_c mi_wsX4_parted_wsX4_parted_r2 (gm_c mi_wsX4_parted_wsX4_parted_r2 (gm_c mi_wsX4_parted_wsX4_parted_r1 (gm_c mi_wsX4_parted_wsX4_parted_r2 (gm_c mi_wsX4_parted_wsX10 gm_n))))) rfl (by decide +kernel)
set_option maxRecDepth 20000 in
theorem gX4_parted_X1_take : GoodIn wsX4_parted (wsV RX4 224 RX1 yX1_take wsX1_take) := goodIn_app (goodIn_m _ [(wsX4_parted_r2, [false, false, false, false, false, false, false, false, false, false, false, false, false, true, true, true]), (wsX4_parted_r1, [false, false, false, false, false, false, false, false, false, false, false, false, false, false, false, false, true])] (gm_c mi_wsX4_parted_wsX4_parted_r2 (gm_c mi_wsX4_parted_wsX4_parted_r1 gm_n)) rfl (by decide +kernel)) ggX4_parted_X1_take
set_option maxRecDepth 20000 in
theorem ggX4_parted_X1_hasMajority : GoodIn wsX4_parted wsX1_hasMajority := goodIn_m _ [(wsX4_parted_r2, [false, false, false, false, false, false, false, false, false, false, false, false, false, false, false, false, false, false, false, false, true]), (wsX4_parted_r2, [false, false, false, false, false, false, false, false, false, false, false, true]), (wsX4_parted_r2, [false, false, false, false, false, false, false, false, false, false, true]), (wsX10, [true, true, true, true])] (gm_c mi_wsX4_parted_wsX4_parted_r2 (gm_c mi_wsX4_parted_wsX4_parted_r2 (gm_c mi_wsX4_parted_wsX4_parted_r2 (gm_c mi_wsX4_parted_wsX10 gm_n)))) rfl (by decide +kernel)
set_option maxRecDepth 20000 in
theorem gX4_parted_X1_hasMajority : GoodIn wsX4_parted (wsV RX4 227 RX1 yX1_hasMajority wsX1_hasMajority) := goodIn_app (goodIn_m _ [(wsX4_parted_r2, [false, false, false, false, false, false, false, false, false, false, false, false, false, false, false, false, false, true, true, true]), (wsX4_parted_r1, [false, false, false, false, false, false, false, false, false, false, false, false, false, false, false, false, true])] (gm_c mi_wsX4_parted_wsX4_parted_r2 (gm_c mi_wsX4_parted_wsX4_parted_r1 gm_n)) rfl (by decide +kernel)) ggX4_parted_X1_hasMajority
def dt_cX4_parted_0 : List (Nat × Nat × Nat × Nat) := [(0, 42, 0, 0), (1, 180, 2, 12), (4, 27, 0, 0), (5, 28, 0, 0), (6, 182, 2, 79), (9, 154, 2, 5), (12, 2, 0, 0), (13, 172, 0, 0), (14, 42, 0, 0), (15, 180, 2, 28), (18, 42, 0, 0), (19, 180, 2, 12), (22, 182, 2, 117), (25, 42, 0, 0), (26, 180, 2, 46), (29, 28, 0, 0), (30, 27, 0, 0), (31, 100, 0, 0), (32, 184, 2, 231), (35, 42, 0, 0)]
theorem da_cX4_parted_0 : fw dt_cX4_parted_0 0 cX4_parted.data.toList = true := by decide +kernel
theorem dX4_parted_0 : decode cX4_parted 0 = .ok (.aload_n 0, 1) := fo_42 (fw_get da_cX4_parted_0 0 rfl)
theorem dX4_parted_1 : decode cX4_parted 1 = .ok (.getfield 12, 3) := fo_180 (fw_get da_cX4_parted_0 1 rfl)
theorem dX4_parted_4 : decode cX4_parted 4 = .ok (.iload_n 1, 1) := fo_27 (fw_get da_cX4_parted_0 2 rfl)
theorem dX4_parted_5 : decode cX4_parted 5 = .ok (.iload_n 2, 1) := fo_28 (fw_get da_cX4_parted_0 3 rfl)
theorem dX4_parted_6 : decode cX4_parted 6 = .ok (.invokevirtual 79, 3) := fo_182 (fw_get da_cX4_parted_0 4 rfl)
theorem dX4_parted_9 : decode cX4_parted 9 = .ok (.ifCond .ne 5, 3) := fo_154 (fw_get da_cX4_parted_0 5 rfl) (by decide +kernel)
theorem dX4_parted_12 : decode cX4_parted 12 = .ok (.iconst (-1), 1) := fo_2 (fw_get da_cX4_parted_0 6 rfl)
theorem dX4_parted_13 : decode cX4_parted 13 = .ok (.ireturn, 1) := fo_172 (fw_get da_cX4_parted_0 7 rfl)
theorem dX4_parted_14 : decode cX4_parted 14 = .ok (.aload_n 0, 1) := fo_42 (fw_get da_cX4_parted_0 8 rfl)
theorem dX4_parted_15 : decode cX4_parted 15 = .ok (.getfield 28, 3) := fo_180 (fw_get da_cX4_parted_0 9 rfl)
theorem dX4_parted_18 : decode cX4_parted 18 = .ok (.aload_n 0, 1) := fo_42 (fw_get da_cX4_parted_0 10 rfl)
theorem dX4_parted_19 : decode cX4_parted 19 = .ok (.getfield 12, 3) := fo_180 (fw_get da_cX4_parted_0 11 rfl)
theorem dX4_parted_22 : decode cX4_parted 22 = .ok (.invokevirtual 117, 3) := fo_182 (fw_get da_cX4_parted_0 12 rfl)
theorem dX4_parted_25 : decode cX4_parted 25 = .ok (.aload_n 0, 1) := fo_42 (fw_get da_cX4_parted_0 13 rfl)
theorem dX4_parted_26 : decode cX4_parted 26 = .ok (.getfield 46, 3) := fo_180 (fw_get da_cX4_parted_0 14 rfl)
theorem dX4_parted_29 : decode cX4_parted 29 = .ok (.iload_n 2, 1) := fo_28 (fw_get da_cX4_parted_0 15 rfl)
theorem dX4_parted_30 : decode cX4_parted 30 = .ok (.iload_n 1, 1) := fo_27 (fw_get da_cX4_parted_0 16 rfl)
theorem dX4_parted_31 : decode cX4_parted 31 = .ok (.isub, 1) := fo_100 (fw_get da_cX4_parted_0 17 rfl)
theorem dX4_parted_32 : decode cX4_parted 32 = .ok (.invokestatic 231, 3) := fo_184 (fw_get da_cX4_parted_0 18 rfl)
theorem dX4_parted_35 : decode cX4_parted 35 = .ok (.aload_n 0, 1) := fo_42 (fw_get da_cX4_parted_0 19 rfl)
def dt_cX4_parted_1 : List (Nat × Nat × Nat × Nat) := [(36, 180, 2, 46), (39, 27, 0, 0), (40, 3, 0, 0), (41, 79, 0, 0), (42, 27, 0, 0), (43, 62, 0, 0), (44, 29, 0, 0), (45, 28, 0, 0), (46, 162, 2, 79), (49, 42, 0, 0), (50, 180, 2, 28), (53, 182, 2, 221), (56, 29, 0, 0), (57, 54, 1, 4), (59, 21, 1, 4), (61, 28, 0, 0), (62, 162, 2, 57), (65, 42, 0, 0), (66, 180, 2, 28), (69, 21, 1, 4)]
theorem da_cX4_parted_1 : fw dt_cX4_parted_1 0 cX4_parted.data.toList = true := by decide +kernel
theorem dX4_parted_36 : decode cX4_parted 36 = .ok (.getfield 46, 3) := fo_180 (fw_get da_cX4_parted_1 0 rfl)
theorem dX4_parted_39 : decode cX4_parted 39 = .ok (.iload_n 1, 1) := fo_27 (fw_get da_cX4_parted_1 1 rfl)
theorem dX4_parted_40 : decode cX4_parted 40 = .ok (.iconst 0, 1) := fo_3 (fw_get da_cX4_parted_1 2 rfl)
theorem dX4_parted_41 : decode cX4_parted 41 = .ok (.iastore, 1) := fo_79 (fw_get da_cX4_parted_1 3 rfl)
theorem dX4_parted_42 : decode cX4_parted 42 = .ok (.iload_n 1, 1) := fo_27 (fw_get da_cX4_parted_1 4 rfl)
theorem dX4_parted_43 : decode cX4_parted 43 = .ok (.istore_n 3, 1) := fo_62 (fw_get da_cX4_parted_1 5 rfl)
theorem dX4_parted_44 : decode cX4_parted 44 = .ok (.iload_n 3, 1) := fo_29 (fw_get da_cX4_parted_1 6 rfl)
theorem dX4_parted_45 : decode cX4_parted 45 = .ok (.iload_n 2, 1) := fo_28 (fw_get da_cX4_parted_1 7 rfl)
theorem dX4_parted_46 : decode cX4_parted 46 = .ok (.if_icmp .ge 79, 3) := fo_162 (fw_get da_cX4_parted_1 8 rfl) (by decide +kernel)
theorem dX4_parted_49 : decode cX4_parted 49 = .ok (.aload_n 0, 1) := fo_42 (fw_get da_cX4_parted_1 9 rfl)
theorem dX4_parted_50 : decode cX4_parted 50 = .ok (.getfield 28, 3) := fo_180 (fw_get da_cX4_parted_1 10 rfl)
theorem dX4_parted_53 : decode cX4_parted 53 = .ok (.invokevirtual 221, 3) := fo_182 (fw_get da_cX4_parted_1 11 rfl)
theorem dX4_parted_56 : decode cX4_parted 56 = .ok (.iload_n 3, 1) := fo_29 (fw_get da_cX4_parted_1 12 rfl)
theorem dX4_parted_57 : decode cX4_parted 57 = .ok (.istore 4, 2) := fo_54 (fw_get da_cX4_parted_1 13 rfl)
theorem dX4_parted_59 : decode cX4_parted 59 = .ok (.iload 4, 2) := fo_21 (fw_get da_cX4_parted_1 14 rfl)
theorem dX4_parted_61 : decode cX4_parted 61 = .ok (.iload_n 2, 1) := fo_28 (fw_get da_cX4_parted_1 15 rfl)
theorem dX4_parted_62 : decode cX4_parted 62 = .ok (.if_icmp .ge 57, 3) := fo_162 (fw_get da_cX4_parted_1 16 rfl) (by decide +kernel)
theorem dX4_parted_65 : decode cX4_parted 65 = .ok (.aload_n 0, 1) := fo_42 (fw_get da_cX4_parted_1 17 rfl)
theorem dX4_parted_66 : decode cX4_parted 66 = .ok (.getfield 28, 3) := fo_180 (fw_get da_cX4_parted_1 18 rfl)
theorem dX4_parted_69 : decode cX4_parted 69 = .ok (.iload 4, 2) := fo_21 (fw_get da_cX4_parted_1 19 rfl)
def dt_cX4_parted_2 : List (Nat × Nat × Nat × Nat) := [(71, 182, 2, 224), (74, 42, 0, 0), (75, 180, 2, 28), (78, 182, 2, 227), (81, 153, 2, 32), (84, 42, 0, 0), (85, 180, 2, 46), (88, 21, 1, 4), (90, 4, 0, 0), (91, 96, 0, 0), (92, 42, 0, 0), (93, 180, 2, 46), (96, 21, 1, 4), (98, 4, 0, 0), (99, 96, 0, 0), (100, 46, 0, 0), (101, 42, 0, 0), (102, 180, 2, 46), (105, 29, 0, 0), (106, 46, 0, 0)]
theorem da_cX4_parted_2 : fw dt_cX4_parted_2 0 cX4_parted.data.toList = true := by decide +kernel
theorem dX4_parted_71 : decode cX4_parted 71 = .ok (.invokevirtual 224, 3) := fo_182 (fw_get da_cX4_parted_2 0 rfl)
theorem dX4_parted_74 : decode cX4_parted 74 = .ok (.aload_n 0, 1) := fo_42 (fw_get da_cX4_parted_2 1 rfl)
theorem dX4_parted_75 : decode cX4_parted 75 = .ok (.getfield 28, 3) := fo_180 (fw_get da_cX4_parted_2 2 rfl)
theorem dX4_parted_78 : decode cX4_parted 78 = .ok (.invokevirtual 227, 3) := fo_182 (fw_get da_cX4_parted_2 3 rfl)
theorem dX4_parted_81 : decode cX4_parted 81 = .ok (.ifCond .eq 32, 3) := fo_153 (fw_get da_cX4_parted_2 4 rfl) (by decide +kernel)
theorem dX4_parted_84 : decode cX4_parted 84 = .ok (.aload_n 0, 1) := fo_42 (fw_get da_cX4_parted_2 5 rfl)
theorem dX4_parted_85 : decode cX4_parted 85 = .ok (.getfield 46, 3) := fo_180 (fw_get da_cX4_parted_2 6 rfl)
theorem dX4_parted_88 : decode cX4_parted 88 = .ok (.iload 4, 2) := fo_21 (fw_get da_cX4_parted_2 7 rfl)
theorem dX4_parted_90 : decode cX4_parted 90 = .ok (.iconst 1, 1) := fo_4 (fw_get da_cX4_parted_2 8 rfl)
theorem dX4_parted_91 : decode cX4_parted 91 = .ok (.iadd, 1) := fo_96 (fw_get da_cX4_parted_2 9 rfl)
theorem dX4_parted_92 : decode cX4_parted 92 = .ok (.aload_n 0, 1) := fo_42 (fw_get da_cX4_parted_2 10 rfl)
theorem dX4_parted_93 : decode cX4_parted 93 = .ok (.getfield 46, 3) := fo_180 (fw_get da_cX4_parted_2 11 rfl)
theorem dX4_parted_96 : decode cX4_parted 96 = .ok (.iload 4, 2) := fo_21 (fw_get da_cX4_parted_2 12 rfl)
theorem dX4_parted_98 : decode cX4_parted 98 = .ok (.iconst 1, 1) := fo_4 (fw_get da_cX4_parted_2 13 rfl)
theorem dX4_parted_99 : decode cX4_parted 99 = .ok (.iadd, 1) := fo_96 (fw_get da_cX4_parted_2 14 rfl)
theorem dX4_parted_100 : decode cX4_parted 100 = .ok (.iaload, 1) := fo_46 (fw_get da_cX4_parted_2 15 rfl)
theorem dX4_parted_101 : decode cX4_parted 101 = .ok (.aload_n 0, 1) := fo_42 (fw_get da_cX4_parted_2 16 rfl)
theorem dX4_parted_102 : decode cX4_parted 102 = .ok (.getfield 46, 3) := fo_180 (fw_get da_cX4_parted_2 17 rfl)
theorem dX4_parted_105 : decode cX4_parted 105 = .ok (.iload_n 3, 1) := fo_29 (fw_get da_cX4_parted_2 18 rfl)
theorem dX4_parted_106 : decode cX4_parted 106 = .ok (.iaload, 1) := fo_46 (fw_get da_cX4_parted_2 19 rfl)
def dt_cX4_parted_3 : List (Nat × Nat × Nat × Nat) := [(107, 4, 0, 0), (108, 96, 0, 0), (109, 184, 2, 91), (112, 79, 0, 0), (113, 132, 2, 1025), (116, 167, 2, 65479), (119, 132, 2, 769), (122, 167, 2, 65458), (125, 42, 0, 0), (126, 180, 2, 46), (129, 28, 0, 0), (130, 46, 0, 0), (131, 172, 0, 0)]
theorem da_cX4_parted_3 : fw dt_cX4_parted_3 0 cX4_parted.data.toList = true := by decide +kernel
theorem dX4_parted_107 : decode cX4_parted 107 = .ok (.iconst 1, 1) := fo_4 (fw_get da_cX4_parted_3 0 rfl)
theorem dX4_parted_108 : decode cX4_parted 108 = .ok (.iadd, 1) := fo_96 (fw_get da_cX4_parted_3 1 rfl)
theorem dX4_parted_109 : decode cX4_parted 109 = .ok (.invokestatic 91, 3) := fo_184 (fw_get da_cX4_parted_3 2 rfl)
theorem dX4_parted_112 : decode cX4_parted 112 = .ok (.iastore, 1) := fo_79 (fw_get da_cX4_parted_3 3 rfl)
theorem dX4_parted_113 : decode cX4_parted 113 = .ok (.iinc 4 1, 3) := fo_132 (fw_get da_cX4_parted_3 4 rfl) rfl (by decide +kernel)
theorem dX4_parted_116 : decode cX4_parted 116 = .ok (.goto (-57), 3) := fo_167 (fw_get da_cX4_parted_3 5 rfl) (by decide +kernel)
theorem dX4_parted_119 : decode cX4_parted 119 = .ok (.iinc 3 1, 3) := fo_132 (fw_get da_cX4_parted_3 6 rfl) rfl (by decide +kernel)
theorem dX4_parted_122 : decode cX4_parted 122 = .ok (.goto (-78), 3) := fo_167 (fw_get da_cX4_parted_3 7 rfl) (by decide +kernel)
theorem dX4_parted_125 : decode cX4_parted 125 = .ok (.aload_n 0, 1) := fo_42 (fw_get da_cX4_parted_3 8 rfl)
theorem dX4_parted_126 : decode cX4_parted 126 = .ok (.getfield 46, 3) := fo_180 (fw_get da_cX4_parted_3 9 rfl)
theorem dX4_parted_129 : decode cX4_parted 129 = .ok (.iload_n 2, 1) := fo_28 (fw_get da_cX4_parted_3 10 rfl)
theorem dX4_parted_130 : decode cX4_parted 130 = .ok (.iaload, 1) := fo_46 (fw_get da_cX4_parted_3 11 rfl)
theorem dX4_parted_131 : decode cX4_parted 131 = .ok (.ireturn, 1) := fo_172 (fw_get da_cX4_parted_3 12 rfl)
set_option maxRecDepth 20000 in
theorem ggX4_cut_X0_hasRange : GoodIn wsX4_cut wsX0_hasRange := goodIn_r _ [7, 8, 31, 32] rfl (by decide +kernel)
set_option maxRecDepth 20000 in
theorem gX4_cut_X0_hasRange : GoodIn wsX4_cut (wsV RX4 79 RX0 yX0_hasRange wsX0_hasRange) := goodIn_app (goodIn_r _ [3, 4, 5, 6] rfl (by decide +kernel)) ggX4_cut_X0_hasRange
set_option maxRecDepth 20000 in
theorem ggX4_cut_X0_leader : GoodIn wsX4_cut wsX0_leader := goodIn_r _ [12, 13, 14, 15, 16, 17, 6, 18, 19, 20, 21, 31, 32] rfl (by decide +kernel)
set_option maxRecDepth 20000 in
theorem gX4_cut_X0_leader : GoodIn wsX4_cut (wsV RX4 207 RX0 yX0_leader wsX0_leader) := goodIn_app (goodIn_r _ [9, 10, 11, 6] rfl (by decide +kernel)) ggX4_cut_X0_leader
def dt_cX4_cut_0 : List (Nat × Nat × Nat × Nat) := [(0, 42, 0, 0), (1, 180, 2, 12), (4, 27, 0, 0), (5, 28, 0, 0), (6, 182, 2, 79), (9, 154, 2, 5), (12, 2, 0, 0), (13, 172, 0, 0), (14, 27, 0, 0), (15, 4, 0, 0), (16, 96, 0, 0), (17, 62, 0, 0), (18, 29, 0, 0), (19, 28, 0, 0), (20, 162, 2, 54), (23, 42, 0, 0), (24, 180, 2, 12), (27, 27, 0, 0), (28, 29, 0, 0), (29, 182, 2, 207)]
theorem da_cX4_cut_0 : fw dt_cX4_cut_0 0 cX4_cut.data.toList = true := by decide +kernel
theorem dX4_cut_0 : decode cX4_cut 0 = .ok (.aload_n 0, 1) := fo_42 (fw_get da_cX4_cut_0 0 rfl)
theorem dX4_cut_1 : decode cX4_cut 1 = .ok (.getfield 12, 3) := fo_180 (fw_get da_cX4_cut_0 1 rfl)
theorem dX4_cut_4 : decode cX4_cut 4 = .ok (.iload_n 1, 1) := fo_27 (fw_get da_cX4_cut_0 2 rfl)
theorem dX4_cut_5 : decode cX4_cut 5 = .ok (.iload_n 2, 1) := fo_28 (fw_get da_cX4_cut_0 3 rfl)
theorem dX4_cut_6 : decode cX4_cut 6 = .ok (.invokevirtual 79, 3) := fo_182 (fw_get da_cX4_cut_0 4 rfl)
theorem dX4_cut_9 : decode cX4_cut 9 = .ok (.ifCond .ne 5, 3) := fo_154 (fw_get da_cX4_cut_0 5 rfl) (by decide +kernel)
theorem dX4_cut_12 : decode cX4_cut 12 = .ok (.iconst (-1), 1) := fo_2 (fw_get da_cX4_cut_0 6 rfl)
theorem dX4_cut_13 : decode cX4_cut 13 = .ok (.ireturn, 1) := fo_172 (fw_get da_cX4_cut_0 7 rfl)
theorem dX4_cut_14 : decode cX4_cut 14 = .ok (.iload_n 1, 1) := fo_27 (fw_get da_cX4_cut_0 8 rfl)
theorem dX4_cut_15 : decode cX4_cut 15 = .ok (.iconst 1, 1) := fo_4 (fw_get da_cX4_cut_0 9 rfl)
theorem dX4_cut_16 : decode cX4_cut 16 = .ok (.iadd, 1) := fo_96 (fw_get da_cX4_cut_0 10 rfl)
theorem dX4_cut_17 : decode cX4_cut 17 = .ok (.istore_n 3, 1) := fo_62 (fw_get da_cX4_cut_0 11 rfl)
theorem dX4_cut_18 : decode cX4_cut 18 = .ok (.iload_n 3, 1) := fo_29 (fw_get da_cX4_cut_0 12 rfl)
theorem dX4_cut_19 : decode cX4_cut 19 = .ok (.iload_n 2, 1) := fo_28 (fw_get da_cX4_cut_0 13 rfl)
theorem dX4_cut_20 : decode cX4_cut 20 = .ok (.if_icmp .ge 54, 3) := fo_162 (fw_get da_cX4_cut_0 14 rfl) (by decide +kernel)
theorem dX4_cut_23 : decode cX4_cut 23 = .ok (.aload_n 0, 1) := fo_42 (fw_get da_cX4_cut_0 15 rfl)
theorem dX4_cut_24 : decode cX4_cut 24 = .ok (.getfield 12, 3) := fo_180 (fw_get da_cX4_cut_0 16 rfl)
theorem dX4_cut_27 : decode cX4_cut 27 = .ok (.iload_n 1, 1) := fo_27 (fw_get da_cX4_cut_0 17 rfl)
theorem dX4_cut_28 : decode cX4_cut 28 = .ok (.iload_n 3, 1) := fo_29 (fw_get da_cX4_cut_0 18 rfl)
theorem dX4_cut_29 : decode cX4_cut 29 = .ok (.invokevirtual 207, 3) := fo_182 (fw_get da_cX4_cut_0 19 rfl)
def dt_cX4_cut_1 : List (Nat × Nat × Nat × Nat) := [(32, 54, 1, 4), (34, 42, 0, 0), (35, 180, 2, 12), (38, 29, 0, 0), (39, 28, 0, 0), (40, 182, 2, 207), (43, 54, 1, 5), (45, 21, 1, 4), (47, 18, 1, 102), (49, 159, 2, 19), (52, 21, 1, 5), (54, 18, 1, 102), (56, 159, 2, 12), (59, 21, 1, 4), (61, 21, 1, 5), (63, 159, 2, 5), (66, 29, 0, 0), (67, 172, 0, 0), (68, 132, 2, 769), (71, 167, 2, 65483)]
theorem da_cX4_cut_1 : fw dt_cX4_cut_1 0 cX4_cut.data.toList = true := by decide +kernel
theorem dX4_cut_32 : decode cX4_cut 32 = .ok (.istore 4, 2) := fo_54 (fw_get da_cX4_cut_1 0 rfl)
theorem dX4_cut_34 : decode cX4_cut 34 = .ok (.aload_n 0, 1) := fo_42 (fw_get da_cX4_cut_1 1 rfl)
theorem dX4_cut_35 : decode cX4_cut 35 = .ok (.getfield 12, 3) := fo_180 (fw_get da_cX4_cut_1 2 rfl)
theorem dX4_cut_38 : decode cX4_cut 38 = .ok (.iload_n 3, 1) := fo_29 (fw_get da_cX4_cut_1 3 rfl)
theorem dX4_cut_39 : decode cX4_cut 39 = .ok (.iload_n 2, 1) := fo_28 (fw_get da_cX4_cut_1 4 rfl)
theorem dX4_cut_40 : decode cX4_cut 40 = .ok (.invokevirtual 207, 3) := fo_182 (fw_get da_cX4_cut_1 5 rfl)
theorem dX4_cut_43 : decode cX4_cut 43 = .ok (.istore 5, 2) := fo_54 (fw_get da_cX4_cut_1 6 rfl)
theorem dX4_cut_45 : decode cX4_cut 45 = .ok (.iload 4, 2) := fo_21 (fw_get da_cX4_cut_1 7 rfl)
theorem dX4_cut_47 : decode cX4_cut 47 = .ok (.ldc 102, 2) := fo_18 (fw_get da_cX4_cut_1 8 rfl)
theorem dX4_cut_49 : decode cX4_cut 49 = .ok (.if_icmp .eq 19, 3) := fo_159 (fw_get da_cX4_cut_1 9 rfl) (by decide +kernel)
theorem dX4_cut_52 : decode cX4_cut 52 = .ok (.iload 5, 2) := fo_21 (fw_get da_cX4_cut_1 10 rfl)
theorem dX4_cut_54 : decode cX4_cut 54 = .ok (.ldc 102, 2) := fo_18 (fw_get da_cX4_cut_1 11 rfl)
theorem dX4_cut_56 : decode cX4_cut 56 = .ok (.if_icmp .eq 12, 3) := fo_159 (fw_get da_cX4_cut_1 12 rfl) (by decide +kernel)
theorem dX4_cut_59 : decode cX4_cut 59 = .ok (.iload 4, 2) := fo_21 (fw_get da_cX4_cut_1 13 rfl)
theorem dX4_cut_61 : decode cX4_cut 61 = .ok (.iload 5, 2) := fo_21 (fw_get da_cX4_cut_1 14 rfl)
theorem dX4_cut_63 : decode cX4_cut 63 = .ok (.if_icmp .eq 5, 3) := fo_159 (fw_get da_cX4_cut_1 15 rfl) (by decide +kernel)
theorem dX4_cut_66 : decode cX4_cut 66 = .ok (.iload_n 3, 1) := fo_29 (fw_get da_cX4_cut_1 16 rfl)
theorem dX4_cut_67 : decode cX4_cut 67 = .ok (.ireturn, 1) := fo_172 (fw_get da_cX4_cut_1 17 rfl)
theorem dX4_cut_68 : decode cX4_cut 68 = .ok (.iinc 3 1, 3) := fo_132 (fw_get da_cX4_cut_1 18 rfl) rfl (by decide +kernel)
theorem dX4_cut_71 : decode cX4_cut 71 = .ok (.goto (-53), 3) := fo_167 (fw_get da_cX4_cut_1 19 rfl) (by decide +kernel)
def dt_cX4_cut_2 : List (Nat × Nat × Nat × Nat) := [(74, 2, 0, 0), (75, 172, 0, 0)]
theorem da_cX4_cut_2 : fw dt_cX4_cut_2 0 cX4_cut.data.toList = true := by decide +kernel
theorem dX4_cut_74 : decode cX4_cut 74 = .ok (.iconst (-1), 1) := fo_2 (fw_get da_cX4_cut_2 0 rfl)
theorem dX4_cut_75 : decode cX4_cut 75 = .ok (.ireturn, 1) := fo_172 (fw_get da_cX4_cut_2 1 rfl)
theorem mi_wsX4_majorities_wsX4_majorities_r1 : ∀ w ∈ wsX4_majorities_r1, w ∈ wsX4_majorities := fun _ h => (List.mem_cons_of_mem _ (List.mem_append_left _ (List.mem_append_left _ (List.mem_append_left _ (List.mem_append_left _ h)))))
theorem mi_wsX4_majorities_wsX00 : ∀ w ∈ wsX00, w ∈ wsX4_majorities := fun _ h => (List.mem_cons_of_mem _ (List.mem_append_left _ (List.mem_append_right _ h)))
theorem mi_wsX4_majorities_wsX10 : ∀ w ∈ wsX10, w ∈ wsX4_majorities := fun _ h => (List.mem_cons_of_mem _ (List.mem_append_right _ h))
set_option maxRecDepth 20000 in
theorem ggX4_majorities_X1_learn : GoodIn wsX4_majorities wsX1_learn := goodIn_m _ [(wsX4_majorities_r1, [false, false, false, false, false, false, false, true, true, true, true, true, true, true, true, true]), (wsX00, [true, true]), (wsX10, [true, true, true, true])] (gm_c mi_wsX4_majorities_wsX4_majorities_r1 (gm_c mi_wsX4_majorities_wsX00 (gm_c mi_wsX4_majorities_wsX10 gm_n))) rfl (by decide +kernel)
set_option maxRecDepth 20000 in
theorem gX4_majorities_X1_learn : GoodIn wsX4_majorities (wsV RX4 117 RX1 yX1_learn wsX1_learn) := goodIn_app (goodIn_m _ [(wsX4_majorities_r1, [false, false, false, true, true, true, true])] (gm_c mi_wsX4_majorities_wsX4_majorities_r1 gm_n) rfl (by decide +kernel)) ggX4_majorities_X1_learn
theorem mi_wsX4_majorities_wsX4_majorities_r2 : ∀ w ∈ wsX4_majorities_r2, w ∈ wsX4_majorities := fun _ h => (List.mem_cons_of_mem _ (List.mem_append_left _ (List.mem_append_left _ (List.mem_append_left _ (List.mem_append_right _ h)))))
set_option maxRecDepth 20000 in
theorem ggX4_majorities_X1_clear : GoodIn wsX4_majorities wsX1_clear := goodIn_m _ [(wsX4_majorities_r1, [false, false, false, false, false, false, false, false, false, false, false, false, false, false, false, false, false, false, false, true, true, true, true, true]), (wsX4_majorities_r2, [true, true, true]), (wsX10, [true, true, true, true])] (gm_c mi_wsX4_majorities_wsX4_majorities_r1 (gm_c mi_wsX4_majorities_wsX4_majorities_r2 (gm_c mi_wsX4_majorities_wsX10 gm_n))) rfl (by decide +kernel)
set_option maxRecDepth 20000 in
theorem gX4_majorities_X1_clear : GoodIn wsX4_majorities (wsV RX4 221 RX1 yX1_clear wsX1_clear) := goodIn_app (goodIn_m _ [(wsX4_majorities_r1, [false, false, false, false, false, false, false, false, false, false, false, false, false, false, false, false, true, true, true]), (wsX4_majorities_r1, [false, false, false, false, false, false, true])] (gm_c mi_wsX4_majorities_wsX4_majorities_r1 (gm_c mi_wsX4_majorities_wsX4_majorities_r1 gm_n)) rfl (by decide +kernel)) ggX4_majorities_X1_clear
set_option maxRecDepth 20000 in
theorem ggX4_majorities_X1_take : GoodIn wsX4_majorities wsX1_take := goodIn_m _ [(wsX4_majorities_r2, [false, false, false, false, false, false, true]), (wsX4_majorities_r1, [false, false, false, false, false, false, false, false, false, false, false, false, false, false, false, false, false, false, false, false, true]), (wsX4_majorities_r1, [false, false, false, false, false, false, false, false, false, true, false, false, false, false, false, false, false, false, false, false, false, true, true]), (wsX10, [true, true, true, true])] (gm_c mi_wsX4_majorities_wsX4_majorities_r2 (gm_c mi_wsX4_majorities_wsX4_majorities_r1 (gm_c mi_wsX4_majorities_wsX4_majorities_r1 (gm_c mi_wsX4_majorities_wsX10 gm_n)))) rfl (by decide +kernel)
set_option maxRecDepth 20000 in
theorem gX4_majorities_X1_take : GoodIn wsX4_majorities (wsV RX4 224 RX1 yX1_take wsX1_take) := goodIn_app (goodIn_m _ [(wsX4_majorities_r2, [false, false, false, true, true, true]), (wsX4_majorities_r1, [false, false, false, false, false, false, true])] (gm_c mi_wsX4_majorities_wsX4_majorities_r2 (gm_c mi_wsX4_majorities_wsX4_majorities_r1 gm_n)) rfl (by decide +kernel)) ggX4_majorities_X1_take
set_option maxRecDepth 20000 in
theorem ggX4_majorities_X1_hasMajority : GoodIn wsX4_majorities wsX1_hasMajority := goodIn_m _ [(wsX4_majorities_r2, [false, false, false, false, false, false, false, false, false, false, true]), (wsX4_majorities_r1, [false, false, false, false, false, false, false, false, false, false, false, false, false, false, false, false, false, false, false, false, false, false, true]), (wsX4_majorities_r1, [false, false, false, false, false, false, false, false, false, false, false, false, false, false, false, false, false, false, false, false, false, true]), (wsX10, [true, true, true, true])] (gm_c mi_wsX4_majorities_wsX4_majorities_r2 (gm_c mi_wsX4_majorities_wsX4_majorities_r1 (gm_c mi_wsX4_majorities_wsX4_majorities_r1 (gm_c mi_wsX4_majorities_wsX10 gm_n)))) rfl (by decide +kernel)
set_option maxRecDepth 20000 in
theorem gX4_majorities_X1_hasMajority : GoodIn wsX4_majorities (wsV RX4 227 RX1 yX1_hasMajority wsX1_hasMajority) := goodIn_app (goodIn_m _ [(wsX4_majorities_r2, [false, false, false, false, false, false, false, true, true, true]), (wsX4_majorities_r1, [false, false, false, false, false, false, true])] (gm_c mi_wsX4_majorities_wsX4_majorities_r2 (gm_c mi_wsX4_majorities_wsX4_majorities_r1 gm_n)) rfl (by decide +kernel)) ggX4_majorities_X1_hasMajority
def dt_cX4_majorities_0 : List (Nat × Nat × Nat × Nat) := [(0, 42, 0, 0), (1, 180, 2, 28), (4, 42, 0, 0), (5, 180, 2, 12), (8, 182, 2, 117), (11, 3, 0, 0), (12, 60, 0, 0), (13, 3, 0, 0), (14, 61, 0, 0), (15, 28, 0, 0), (16, 42, 0, 0), (17, 180, 2, 12), (20, 180, 2, 57), (23, 162, 2, 56), (26, 42, 0, 0), (27, 180, 2, 28), (30, 182, 2, 221), (33, 28, 0, 0), (34, 62, 0, 0), (35, 29, 0, 0)]
theorem da_cX4_majorities_0 : fw dt_cX4_majorities_0 0 cX4_majorities.data.toList = true := by decide +kernel
theorem dX4_majorities_0 : decode cX4_majorities 0 = .ok (.aload_n 0, 1) := fo_42 (fw_get da_cX4_majorities_0 0 rfl)
theorem dX4_majorities_1 : decode cX4_majorities 1 = .ok (.getfield 28, 3) := fo_180 (fw_get da_cX4_majorities_0 1 rfl)
theorem dX4_majorities_4 : decode cX4_majorities 4 = .ok (.aload_n 0, 1) := fo_42 (fw_get da_cX4_majorities_0 2 rfl)
theorem dX4_majorities_5 : decode cX4_majorities 5 = .ok (.getfield 12, 3) := fo_180 (fw_get da_cX4_majorities_0 3 rfl)
theorem dX4_majorities_8 : decode cX4_majorities 8 = .ok (.invokevirtual 117, 3) := fo_182 (fw_get da_cX4_majorities_0 4 rfl)
theorem dX4_majorities_11 : decode cX4_majorities 11 = .ok (.iconst 0, 1) := fo_3 (fw_get da_cX4_majorities_0 5 rfl)
theorem dX4_majorities_12 : decode cX4_majorities 12 = .ok (.istore_n 1, 1) := fo_60 (fw_get da_cX4_majorities_0 6 rfl)
theorem dX4_majorities_13 : decode cX4_majorities 13 = .ok (.iconst 0, 1) := fo_3 (fw_get da_cX4_majorities_0 7 rfl)
theorem dX4_majorities_14 : decode cX4_majorities 14 = .ok (.istore_n 2, 1) := fo_61 (fw_get da_cX4_majorities_0 8 rfl)
theorem dX4_majorities_15 : decode cX4_majorities 15 = .ok (.iload_n 2, 1) := fo_28 (fw_get da_cX4_majorities_0 9 rfl)
theorem dX4_majorities_16 : decode cX4_majorities 16 = .ok (.aload_n 0, 1) := fo_42 (fw_get da_cX4_majorities_0 10 rfl)
theorem dX4_majorities_17 : decode cX4_majorities 17 = .ok (.getfield 12, 3) := fo_180 (fw_get da_cX4_majorities_0 11 rfl)
theorem dX4_majorities_20 : decode cX4_majorities 20 = .ok (.getfield 57, 3) := fo_180 (fw_get da_cX4_majorities_0 12 rfl)
theorem dX4_majorities_23 : decode cX4_majorities 23 = .ok (.if_icmp .ge 56, 3) := fo_162 (fw_get da_cX4_majorities_0 13 rfl) (by decide +kernel)
theorem dX4_majorities_26 : decode cX4_majorities 26 = .ok (.aload_n 0, 1) := fo_42 (fw_get da_cX4_majorities_0 14 rfl)
theorem dX4_majorities_27 : decode cX4_majorities 27 = .ok (.getfield 28, 3) := fo_180 (fw_get da_cX4_majorities_0 15 rfl)
theorem dX4_majorities_30 : decode cX4_majorities 30 = .ok (.invokevirtual 221, 3) := fo_182 (fw_get da_cX4_majorities_0 16 rfl)
theorem dX4_majorities_33 : decode cX4_majorities 33 = .ok (.iload_n 2, 1) := fo_28 (fw_get da_cX4_majorities_0 17 rfl)
theorem dX4_majorities_34 : decode cX4_majorities 34 = .ok (.istore_n 3, 1) := fo_62 (fw_get da_cX4_majorities_0 18 rfl)
theorem dX4_majorities_35 : decode cX4_majorities 35 = .ok (.iload_n 3, 1) := fo_29 (fw_get da_cX4_majorities_0 19 rfl)
def dt_cX4_majorities_1 : List (Nat × Nat × Nat × Nat) := [(36, 42, 0, 0), (37, 180, 2, 12), (40, 180, 2, 57), (43, 162, 2, 30), (46, 42, 0, 0), (47, 180, 2, 28), (50, 29, 0, 0), (51, 182, 2, 224), (54, 42, 0, 0), (55, 180, 2, 28), (58, 182, 2, 227), (61, 153, 2, 6), (64, 132, 2, 257), (67, 132, 2, 769), (70, 167, 2, 65501), (73, 132, 2, 513), (76, 167, 2, 65475), (79, 27, 0, 0), (80, 172, 0, 0)]
theorem da_cX4_majorities_1 : fw dt_cX4_majorities_1 0 cX4_majorities.data.toList = true := by decide +kernel
theorem dX4_majorities_36 : decode cX4_majorities 36 = .ok (.aload_n 0, 1) := fo_42 (fw_get da_cX4_majorities_1 0 rfl)
theorem dX4_majorities_37 : decode cX4_majorities 37 = .ok (.getfield 12, 3) := fo_180 (fw_get da_cX4_majorities_1 1 rfl)
theorem dX4_majorities_40 : decode cX4_majorities 40 = .ok (.getfield 57, 3) := fo_180 (fw_get da_cX4_majorities_1 2 rfl)
theorem dX4_majorities_43 : decode cX4_majorities 43 = .ok (.if_icmp .ge 30, 3) := fo_162 (fw_get da_cX4_majorities_1 3 rfl) (by decide +kernel)
theorem dX4_majorities_46 : decode cX4_majorities 46 = .ok (.aload_n 0, 1) := fo_42 (fw_get da_cX4_majorities_1 4 rfl)
theorem dX4_majorities_47 : decode cX4_majorities 47 = .ok (.getfield 28, 3) := fo_180 (fw_get da_cX4_majorities_1 5 rfl)
theorem dX4_majorities_50 : decode cX4_majorities 50 = .ok (.iload_n 3, 1) := fo_29 (fw_get da_cX4_majorities_1 6 rfl)
theorem dX4_majorities_51 : decode cX4_majorities 51 = .ok (.invokevirtual 224, 3) := fo_182 (fw_get da_cX4_majorities_1 7 rfl)
theorem dX4_majorities_54 : decode cX4_majorities 54 = .ok (.aload_n 0, 1) := fo_42 (fw_get da_cX4_majorities_1 8 rfl)
theorem dX4_majorities_55 : decode cX4_majorities 55 = .ok (.getfield 28, 3) := fo_180 (fw_get da_cX4_majorities_1 9 rfl)
theorem dX4_majorities_58 : decode cX4_majorities 58 = .ok (.invokevirtual 227, 3) := fo_182 (fw_get da_cX4_majorities_1 10 rfl)
theorem dX4_majorities_61 : decode cX4_majorities 61 = .ok (.ifCond .eq 6, 3) := fo_153 (fw_get da_cX4_majorities_1 11 rfl) (by decide +kernel)
theorem dX4_majorities_64 : decode cX4_majorities 64 = .ok (.iinc 1 1, 3) := fo_132 (fw_get da_cX4_majorities_1 12 rfl) rfl (by decide +kernel)
theorem dX4_majorities_67 : decode cX4_majorities 67 = .ok (.iinc 3 1, 3) := fo_132 (fw_get da_cX4_majorities_1 13 rfl) rfl (by decide +kernel)
theorem dX4_majorities_70 : decode cX4_majorities 70 = .ok (.goto (-35), 3) := fo_167 (fw_get da_cX4_majorities_1 14 rfl) (by decide +kernel)
theorem dX4_majorities_73 : decode cX4_majorities 73 = .ok (.iinc 2 1, 3) := fo_132 (fw_get da_cX4_majorities_1 15 rfl) rfl (by decide +kernel)
theorem dX4_majorities_76 : decode cX4_majorities 76 = .ok (.goto (-61), 3) := fo_167 (fw_get da_cX4_majorities_1 16 rfl) (by decide +kernel)
theorem dX4_majorities_79 : decode cX4_majorities 79 = .ok (.iload_n 1, 1) := fo_27 (fw_get da_cX4_majorities_1 17 rfl)
theorem dX4_majorities_80 : decode cX4_majorities 80 = .ok (.ireturn, 1) := fo_172 (fw_get da_cX4_majorities_1 18 rfl)
theorem mi_wsX4_windows_wsX4_windows_r1 : ∀ w ∈ wsX4_windows_r1, w ∈ wsX4_windows := fun _ h => (List.mem_cons_of_mem _ (List.mem_append_left _ (List.mem_append_left _ (List.mem_append_left _ (List.mem_append_left _ h)))))
set_option maxRecDepth 20000 in
theorem ggX4_windows_X4_isShare : GoodIn wsX4_windows wsX4_isShare := goodIn_m _ [(wsX4_windows_r1, [false, false, false, false, false, false, false, false, true])] (gm_c mi_wsX4_windows_wsX4_windows_r1 gm_n) rfl (by decide +kernel)
set_option maxRecDepth 20000 in
theorem gX4_windows_X4_isShare : GoodIn wsX4_windows (va_wsS RX4 186 yX4_isShare wsX4_isShare) := goodIn_app (goodIn_m _ [(wsX4_windows_r1, [false, false, false, false, false, true, true, true])] (gm_c mi_wsX4_windows_wsX4_windows_r1 gm_n) rfl (by decide +kernel)) ggX4_windows_X4_isShare
theorem mi_wsX4_windows_wsX4_windows_r2 : ∀ w ∈ wsX4_windows_r2, w ∈ wsX4_windows := fun _ h => (List.mem_cons_of_mem _ (List.mem_append_left _ (List.mem_append_left _ (List.mem_append_left _ (List.mem_append_right _ (List.mem_append_left _ h))))))
theorem mi_wsX4_windows_wsX4_windows_r3 : ∀ w ∈ wsX4_windows_r3, w ∈ wsX4_windows := fun _ h => (List.mem_cons_of_mem _ (List.mem_append_left _ (List.mem_append_left _ (List.mem_append_left _ (List.mem_append_right _ (List.mem_append_right _ h))))))
theorem mi_wsX4_windows_wsX40 : ∀ w ∈ wsX40, w ∈ wsX4_windows := fun _ h => (List.mem_cons_of_mem _ (List.mem_append_left _ (List.mem_append_left _ (List.mem_append_right _ h))))
theorem mi_wsX4_windows_wsX00 : ∀ w ∈ wsX00, w ∈ wsX4_windows := fun _ h => (List.mem_cons_of_mem _ (List.mem_append_left _ (List.mem_append_right _ h)))
theorem mi_wsX4_windows_wsX10 : ∀ w ∈ wsX10, w ∈ wsX4_windows := fun _ h => (List.mem_cons_of_mem _ (List.mem_append_right _ h))
set_option maxRecDepth 20000 in
theorem ggX4_windows_X4_slideWindow : GoodIn wsX4_windows wsX4_slideWindow := goodIn_m _ [(wsX4_windows_r1, [false, false, false, false, false, false, false, false, false, false, false, false, true, true]), (wsX4_windows_r1, [true, false, false, false, true]), (wsX4_windows_r1, [false, true, false, false, false, false, false, false, false, false, false, false, false, false, true, true, true, true, true, true, true, true, true, true]), (wsX4_windows_r2, [true, true, true, true, true, true, true, true, true, true, true, true, true, true, true, true, true, true, true, true, true, true, true, true]), (wsX4_windows_r3, [true, true]), (wsX4_windows_r1, [false, false, false, false, false, false, false, true]), (wsX4_windows_r3, [false, false, true, true, true, true, true]), (wsX40, [true, true, true, true, true, true, true, true, true]), (wsX00, [true, true]), (wsX10, [true, true, true, true])] (gm_c mi_wsX4_windows_wsX4_windows_r1 (gm_c mi_wsX4_windows_wsX4_windows_r1 (gm_c mi_wsX4_windows_wsX4_windows_r1 (gm_c mi_wsX4_windows_wsX4_windows_r2 (gm_c mi_wsX4_windows_wsX4_windows_r3 (gm_c mi_wsX4_windows_wsX4_windows_r1 (gm_c mi_wsX4_windows_wsX4_windows_r3 (gm_c mi_wsX4_windows_wsX40 (gm_c mi_wsX4_windows_wsX00 (gm_c mi_wsX4_windows_wsX10 gm_n)))))))))) rfl (by decide +kernel)
set_option maxRecDepth 20000 in
theorem gX4_windows_X4_slideWindow : GoodIn wsX4_windows (wsV RX4 237 RX4 yX4_slideWindow wsX4_slideWindow) := goodIn_app (goodIn_m _ [(wsX4_windows_r1, [false, false, false, false, false, false, false, false, false, true, true, true]), (wsX4_windows_r1, [false, false, false, false, false, false, false, true])] (gm_c mi_wsX4_windows_wsX4_windows_r1 (gm_c mi_wsX4_windows_wsX4_windows_r1 gm_n)) rfl (by decide +kernel)) ggX4_windows_X4_slideWindow
set_option maxRecDepth 20000 in
theorem ggX4_windows_X4_kindOfMostWins : GoodIn wsX4_windows wsX4_kindOfMostWins := goodIn_m _ [(wsX4_windows_r3, [false, false, false, false, false, false, false, false, false, false, true]), (wsX4_windows_r1, [true, true, false, false, true]), (wsX4_windows_r1, [false, false, false, true]), (wsX40, [true, true, true, true, true, true, true, true, true]), (wsX00, [true, true])] (gm_c mi_wsX4_windows_wsX4_windows_r3 (gm_c mi_wsX4_windows_wsX4_windows_r1 (gm_c mi_wsX4_windows_wsX4_windows_r1 (gm_c mi_wsX4_windows_wsX40 (gm_c mi_wsX4_windows_wsX00 gm_n))))) rfl (by decide +kernel)
set_option maxRecDepth 20000 in
theorem gX4_windows_X4_kindOfMostWins : GoodIn wsX4_windows (wsV RX4 240 RX4 yX4_kindOfMostWins wsX4_kindOfMostWins) := goodIn_app (goodIn_m _ [(wsX4_windows_r3, [false, false, false, false, false, false, false, true, true, true]), (wsX4_windows_r1, [false, false, false, false, false, false, false, true])] (gm_c mi_wsX4_windows_wsX4_windows_r3 (gm_c mi_wsX4_windows_wsX4_windows_r1 gm_n)) rfl (by decide +kernel)) ggX4_windows_X4_kindOfMostWins
def dt_cX4_windows_0 : List (Nat × Nat × Nat × Nat) := [(0, 21, 1, 4), (2, 155, 2, 9), (5, 21, 1, 4), (7, 5, 0, 0), (8, 164, 2, 5), (11, 2, 0, 0), (12, 172, 0, 0), (13, 27, 0, 0), (14, 4, 0, 0), (15, 161, 2, 22), (18, 27, 0, 0), (19, 42, 0, 0), (20, 180, 2, 12), (23, 180, 2, 57), (26, 163, 2, 11), (29, 28, 0, 0), (30, 29, 0, 0), (31, 184, 2, 186), (34, 154, 2, 16), (37, 21, 1, 4)]
theorem da_cX4_windows_0 : fw dt_cX4_windows_0 0 cX4_windows.data.toList = true := by decide +kernel
theorem dX4_windows_0 : decode cX4_windows 0 = .ok (.iload 4, 2) := fo_21 (fw_get da_cX4_windows_0 0 rfl)
theorem dX4_windows_2 : decode cX4_windows 2 = .ok (.ifCond .lt 9, 3) := fo_155 (fw_get da_cX4_windows_0 1 rfl) (by decide +kernel)
theorem dX4_windows_5 : decode cX4_windows 5 = .ok (.iload 4, 2) := fo_21 (fw_get da_cX4_windows_0 2 rfl)
theorem dX4_windows_7 : decode cX4_windows 7 = .ok (.iconst 2, 1) := fo_5 (fw_get da_cX4_windows_0 3 rfl)
theorem dX4_windows_8 : decode cX4_windows 8 = .ok (.if_icmp .le 5, 3) := fo_164 (fw_get da_cX4_windows_0 4 rfl) (by decide +kernel)
theorem dX4_windows_11 : decode cX4_windows 11 = .ok (.iconst (-1), 1) := fo_2 (fw_get da_cX4_windows_0 5 rfl)
theorem dX4_windows_12 : decode cX4_windows 12 = .ok (.ireturn, 1) := fo_172 (fw_get da_cX4_windows_0 6 rfl)
theorem dX4_windows_13 : decode cX4_windows 13 = .ok (.iload_n 1, 1) := fo_27 (fw_get da_cX4_windows_0 7 rfl)
theorem dX4_windows_14 : decode cX4_windows 14 = .ok (.iconst 1, 1) := fo_4 (fw_get da_cX4_windows_0 8 rfl)
theorem dX4_windows_15 : decode cX4_windows 15 = .ok (.if_icmp .lt 22, 3) := fo_161 (fw_get da_cX4_windows_0 9 rfl) (by decide +kernel)
theorem dX4_windows_18 : decode cX4_windows 18 = .ok (.iload_n 1, 1) := fo_27 (fw_get da_cX4_windows_0 10 rfl)
theorem dX4_windows_19 : decode cX4_windows 19 = .ok (.aload_n 0, 1) := fo_42 (fw_get da_cX4_windows_0 11 rfl)
theorem dX4_windows_20 : decode cX4_windows 20 = .ok (.getfield 12, 3) := fo_180 (fw_get da_cX4_windows_0 12 rfl)
theorem dX4_windows_23 : decode cX4_windows 23 = .ok (.getfield 57, 3) := fo_180 (fw_get da_cX4_windows_0 13 rfl)
theorem dX4_windows_26 : decode cX4_windows 26 = .ok (.if_icmp .gt 11, 3) := fo_163 (fw_get da_cX4_windows_0 14 rfl) (by decide +kernel)
theorem dX4_windows_29 : decode cX4_windows 29 = .ok (.iload_n 2, 1) := fo_28 (fw_get da_cX4_windows_0 15 rfl)
theorem dX4_windows_30 : decode cX4_windows 30 = .ok (.iload_n 3, 1) := fo_29 (fw_get da_cX4_windows_0 16 rfl)
theorem dX4_windows_31 : decode cX4_windows 31 = .ok (.invokestatic 186, 3) := fo_184 (fw_get da_cX4_windows_0 17 rfl)
theorem dX4_windows_34 : decode cX4_windows 34 = .ok (.ifCond .ne 16, 3) := fo_154 (fw_get da_cX4_windows_0 18 rfl) (by decide +kernel)
theorem dX4_windows_37 : decode cX4_windows 37 = .ok (.iload 4, 2) := fo_21 (fw_get da_cX4_windows_0 19 rfl)
def dt_cX4_windows_1 : List (Nat × Nat × Nat × Nat) := [(39, 4, 0, 0), (40, 160, 2, 8), (43, 18, 1, 102), (45, 167, 2, 4), (48, 2, 0, 0), (49, 172, 0, 0), (50, 42, 0, 0), (51, 27, 0, 0), (52, 28, 0, 0), (53, 29, 0, 0), (54, 182, 2, 237), (57, 54, 1, 5), (59, 21, 1, 4), (61, 154, 2, 6), (64, 21, 1, 5), (66, 172, 0, 0), (67, 42, 0, 0), (68, 182, 2, 240), (71, 54, 1, 6), (73, 21, 1, 6)]
theorem da_cX4_windows_1 : fw dt_cX4_windows_1 0 cX4_windows.data.toList = true := by decide +kernel
theorem dX4_windows_39 : decode cX4_windows 39 = .ok (.iconst 1, 1) := fo_4 (fw_get da_cX4_windows_1 0 rfl)
theorem dX4_windows_40 : decode cX4_windows 40 = .ok (.if_icmp .ne 8, 3) := fo_160 (fw_get da_cX4_windows_1 1 rfl) (by decide +kernel)
theorem dX4_windows_43 : decode cX4_windows 43 = .ok (.ldc 102, 2) := fo_18 (fw_get da_cX4_windows_1 2 rfl)
theorem dX4_windows_45 : decode cX4_windows 45 = .ok (.goto 4, 3) := fo_167 (fw_get da_cX4_windows_1 3 rfl) (by decide +kernel)
theorem dX4_windows_48 : decode cX4_windows 48 = .ok (.iconst (-1), 1) := fo_2 (fw_get da_cX4_windows_1 4 rfl)
theorem dX4_windows_49 : decode cX4_windows 49 = .ok (.ireturn, 1) := fo_172 (fw_get da_cX4_windows_1 5 rfl)
theorem dX4_windows_50 : decode cX4_windows 50 = .ok (.aload_n 0, 1) := fo_42 (fw_get da_cX4_windows_1 6 rfl)
theorem dX4_windows_51 : decode cX4_windows 51 = .ok (.iload_n 1, 1) := fo_27 (fw_get da_cX4_windows_1 7 rfl)
theorem dX4_windows_52 : decode cX4_windows 52 = .ok (.iload_n 2, 1) := fo_28 (fw_get da_cX4_windows_1 8 rfl)
theorem dX4_windows_53 : decode cX4_windows 53 = .ok (.iload_n 3, 1) := fo_29 (fw_get da_cX4_windows_1 9 rfl)
theorem dX4_windows_54 : decode cX4_windows 54 = .ok (.invokevirtual 237, 3) := fo_182 (fw_get da_cX4_windows_1 10 rfl)
theorem dX4_windows_57 : decode cX4_windows 57 = .ok (.istore 5, 2) := fo_54 (fw_get da_cX4_windows_1 11 rfl)
theorem dX4_windows_59 : decode cX4_windows 59 = .ok (.iload 4, 2) := fo_21 (fw_get da_cX4_windows_1 12 rfl)
theorem dX4_windows_61 : decode cX4_windows 61 = .ok (.ifCond .ne 6, 3) := fo_154 (fw_get da_cX4_windows_1 13 rfl) (by decide +kernel)
theorem dX4_windows_64 : decode cX4_windows 64 = .ok (.iload 5, 2) := fo_21 (fw_get da_cX4_windows_1 14 rfl)
theorem dX4_windows_66 : decode cX4_windows 66 = .ok (.ireturn, 1) := fo_172 (fw_get da_cX4_windows_1 15 rfl)
theorem dX4_windows_67 : decode cX4_windows 67 = .ok (.aload_n 0, 1) := fo_42 (fw_get da_cX4_windows_1 16 rfl)
theorem dX4_windows_68 : decode cX4_windows 68 = .ok (.invokevirtual 240, 3) := fo_182 (fw_get da_cX4_windows_1 17 rfl)
theorem dX4_windows_71 : decode cX4_windows 71 = .ok (.istore 6, 2) := fo_54 (fw_get da_cX4_windows_1 18 rfl)
theorem dX4_windows_73 : decode cX4_windows 73 = .ok (.iload 6, 2) := fo_21 (fw_get da_cX4_windows_1 19 rfl)
def dt_cX4_windows_2 : List (Nat × Nat × Nat × Nat) := [(75, 2, 0, 0), (76, 160, 2, 16), (79, 21, 1, 4), (81, 4, 0, 0), (82, 160, 2, 8), (85, 18, 1, 102), (87, 167, 2, 4), (90, 3, 0, 0), (91, 172, 0, 0), (92, 21, 1, 4), (94, 4, 0, 0), (95, 160, 2, 16), (98, 42, 0, 0), (99, 180, 2, 12), (102, 180, 2, 110), (105, 21, 1, 6), (107, 46, 0, 0), (108, 167, 2, 10), (111, 42, 0, 0), (112, 180, 2, 42)]
theorem da_cX4_windows_2 : fw dt_cX4_windows_2 0 cX4_windows.data.toList = true := by decide +kernel
theorem dX4_windows_75 : decode cX4_windows 75 = .ok (.iconst (-1), 1) := fo_2 (fw_get da_cX4_windows_2 0 rfl)
theorem dX4_windows_76 : decode cX4_windows 76 = .ok (.if_icmp .ne 16, 3) := fo_160 (fw_get da_cX4_windows_2 1 rfl) (by decide +kernel)
theorem dX4_windows_79 : decode cX4_windows 79 = .ok (.iload 4, 2) := fo_21 (fw_get da_cX4_windows_2 2 rfl)
theorem dX4_windows_81 : decode cX4_windows 81 = .ok (.iconst 1, 1) := fo_4 (fw_get da_cX4_windows_2 3 rfl)
theorem dX4_windows_82 : decode cX4_windows 82 = .ok (.if_icmp .ne 8, 3) := fo_160 (fw_get da_cX4_windows_2 4 rfl) (by decide +kernel)
theorem dX4_windows_85 : decode cX4_windows 85 = .ok (.ldc 102, 2) := fo_18 (fw_get da_cX4_windows_2 5 rfl)
theorem dX4_windows_87 : decode cX4_windows 87 = .ok (.goto 4, 3) := fo_167 (fw_get da_cX4_windows_2 6 rfl) (by decide +kernel)
theorem dX4_windows_90 : decode cX4_windows 90 = .ok (.iconst 0, 1) := fo_3 (fw_get da_cX4_windows_2 7 rfl)
theorem dX4_windows_91 : decode cX4_windows 91 = .ok (.ireturn, 1) := fo_172 (fw_get da_cX4_windows_2 8 rfl)
theorem dX4_windows_92 : decode cX4_windows 92 = .ok (.iload 4, 2) := fo_21 (fw_get da_cX4_windows_2 9 rfl)
theorem dX4_windows_94 : decode cX4_windows 94 = .ok (.iconst 1, 1) := fo_4 (fw_get da_cX4_windows_2 10 rfl)
theorem dX4_windows_95 : decode cX4_windows 95 = .ok (.if_icmp .ne 16, 3) := fo_160 (fw_get da_cX4_windows_2 11 rfl) (by decide +kernel)
theorem dX4_windows_98 : decode cX4_windows 98 = .ok (.aload_n 0, 1) := fo_42 (fw_get da_cX4_windows_2 12 rfl)
theorem dX4_windows_99 : decode cX4_windows 99 = .ok (.getfield 12, 3) := fo_180 (fw_get da_cX4_windows_2 13 rfl)
theorem dX4_windows_102 : decode cX4_windows 102 = .ok (.getfield 110, 3) := fo_180 (fw_get da_cX4_windows_2 14 rfl)
theorem dX4_windows_105 : decode cX4_windows 105 = .ok (.iload 6, 2) := fo_21 (fw_get da_cX4_windows_2 15 rfl)
theorem dX4_windows_107 : decode cX4_windows 107 = .ok (.iaload, 1) := fo_46 (fw_get da_cX4_windows_2 16 rfl)
theorem dX4_windows_108 : decode cX4_windows 108 = .ok (.goto 10, 3) := fo_167 (fw_get da_cX4_windows_2 17 rfl) (by decide +kernel)
theorem dX4_windows_111 : decode cX4_windows 111 = .ok (.aload_n 0, 1) := fo_42 (fw_get da_cX4_windows_2 18 rfl)
theorem dX4_windows_112 : decode cX4_windows 112 = .ok (.getfield 42, 3) := fo_180 (fw_get da_cX4_windows_2 19 rfl)
def dt_cX4_windows_3 : List (Nat × Nat × Nat × Nat) := [(115, 21, 1, 6), (117, 46, 0, 0), (118, 172, 0, 0)]
theorem da_cX4_windows_3 : fw dt_cX4_windows_3 0 cX4_windows.data.toList = true := by decide +kernel
theorem dX4_windows_115 : decode cX4_windows 115 = .ok (.iload 6, 2) := fo_21 (fw_get da_cX4_windows_3 0 rfl)
theorem dX4_windows_117 : decode cX4_windows 117 = .ok (.iaload, 1) := fo_46 (fw_get da_cX4_windows_3 1 rfl)
theorem dX4_windows_118 : decode cX4_windows 118 = .ok (.ireturn, 1) := fo_172 (fw_get da_cX4_windows_3 2 rfl)
theorem mi_wsX4_needs_wsX4_needs_r1 : ∀ w ∈ wsX4_needs_r1, w ∈ wsX4_needs := fun _ h => (List.mem_cons_of_mem _ (List.mem_append_left _ (List.mem_append_left _ (List.mem_append_left _ h))))
set_option maxRecDepth 20000 in
theorem ggX4_needs_X4_isValue : GoodIn wsX4_needs wsX4_isValue := goodIn_m _ [(wsX4_needs_r1, [false, false, false, false, false, false, false, false, true])] (gm_c mi_wsX4_needs_wsX4_needs_r1 gm_n) rfl (by decide +kernel)
set_option maxRecDepth 20000 in
theorem gX4_needs_X4_isValue : GoodIn wsX4_needs (va_wsS RX4 68 yX4_isValue wsX4_isValue) := goodIn_app (goodIn_m _ [(wsX4_needs_r1, [false, false, false, false, false, true, true, true])] (gm_c mi_wsX4_needs_wsX4_needs_r1 gm_n) rfl (by decide +kernel)) ggX4_needs_X4_isValue
theorem mi_wsX4_needs_wsX00 : ∀ w ∈ wsX00, w ∈ wsX4_needs := fun _ h => (List.mem_cons_of_mem _ (List.mem_append_right _ h))
set_option maxRecDepth 20000 in
theorem ggX4_needs_X0_hasRange : GoodIn wsX4_needs wsX0_hasRange := goodIn_m _ [(wsX4_needs_r1, [false, false, false, false, false, false, false, false, false, false, false, false, false, true, true]), (wsX00, [true, true])] (gm_c mi_wsX4_needs_wsX4_needs_r1 (gm_c mi_wsX4_needs_wsX00 gm_n)) rfl (by decide +kernel)
set_option maxRecDepth 20000 in
theorem gX4_needs_X0_hasRange : GoodIn wsX4_needs (wsV RX4 79 RX0 yX0_hasRange wsX0_hasRange) := goodIn_app (goodIn_m _ [(wsX4_needs_r1, [false, false, false, false, false, false, false, false, false, true, true, true, true])] (gm_c mi_wsX4_needs_wsX4_needs_r1 gm_n) rfl (by decide +kernel)) ggX4_needs_X0_hasRange
set_option maxRecDepth 20000 in
theorem ggX4_needs_X4_isShare : GoodIn wsX4_needs wsX4_isShare := goodIn_m _ [(wsX4_needs_r1, [false, false, false, false, false, false, false, false, false, false, false, false, false, false, false, false, false, true])] (gm_c mi_wsX4_needs_wsX4_needs_r1 gm_n) rfl (by decide +kernel)
set_option maxRecDepth 20000 in
theorem gX4_needs_X4_isShare : GoodIn wsX4_needs (va_wsS RX4 186 yX4_isShare wsX4_isShare) := goodIn_app (goodIn_m _ [(wsX4_needs_r1, [false, false, false, false, false, false, false, false, false, false, false, false, false, false, false, true, true]), (wsX4_needs_r1, [false, false, false, false, false, false, false, true])] (gm_c mi_wsX4_needs_wsX4_needs_r1 (gm_c mi_wsX4_needs_wsX4_needs_r1 gm_n)) rfl (by decide +kernel)) ggX4_needs_X4_isShare
set_option maxRecDepth 20000 in
theorem ggX4_needs_X4_mostWithoutHeavy : GoodIn wsX4_needs wsX4_mostWithoutHeavy := goodIn_m _ [(wsX4_needs_r1, [false, false, false, false, false, false, false, false, false, false, false, false, false, false, false, false, false, false, false, false, true])] (gm_c mi_wsX4_needs_wsX4_needs_r1 gm_n) rfl (by decide +kernel)
set_option maxRecDepth 20000 in
theorem gX4_needs_X4_mostWithoutHeavy : GoodIn wsX4_needs (va_wsS RX4 243 yX4_mostWithoutHeavy wsX4_mostWithoutHeavy) := goodIn_app (goodIn_m _ [(wsX4_needs_r1, [false, false, false, false, false, false, false, false, false, false, false, false, false, false, false, false, false, false, true, true]), (wsX4_needs_r1, [false, false, false, false, false, false, false, true])] (gm_c mi_wsX4_needs_wsX4_needs_r1 (gm_c mi_wsX4_needs_wsX4_needs_r1 gm_n)) rfl (by decide +kernel)) ggX4_needs_X4_mostWithoutHeavy
theorem mi_wsX4_needs_wsX4_needs_r2 : ∀ w ∈ wsX4_needs_r2, w ∈ wsX4_needs := fun _ h => (List.mem_cons_of_mem _ (List.mem_append_left _ (List.mem_append_left _ (List.mem_append_right _ h))))
set_option maxRecDepth 20000 in
theorem ggX4_needs_X0_oftenIn : GoodIn wsX4_needs wsX0_oftenIn := goodIn_m _ [(wsX4_needs_r2, [true, true]), (wsX00, [true, true])] (gm_c mi_wsX4_needs_wsX4_needs_r2 (gm_c mi_wsX4_needs_wsX00 gm_n)) rfl (by decide +kernel)
set_option maxRecDepth 20000 in
theorem gX4_needs_X0_oftenIn : GoodIn wsX4_needs (wsV RX4 113 RX0 yX0_oftenIn wsX0_oftenIn) := goodIn_app (goodIn_m _ [(wsX4_needs_r1, [false, false, false, false, false, false, false, false, false, false, false, false, false, false, false, false, false, false, false, false, false, true, true, true]), (wsX4_needs_r1, [false, false, false, false, false, false, false, false, false, false, false, false, true])] (gm_c mi_wsX4_needs_wsX4_needs_r1 (gm_c mi_wsX4_needs_wsX4_needs_r1 gm_n)) rfl (by decide +kernel)) ggX4_needs_X0_oftenIn
def dt_cX4_needs_0 : List (Nat × Nat × Nat × Nat) := [(0, 27, 0, 0), (1, 184, 2, 68), (4, 153, 2, 25), (7, 42, 0, 0), (8, 180, 2, 12), (11, 28, 0, 0), (12, 29, 0, 0), (13, 182, 2, 79), (16, 153, 2, 13), (19, 21, 1, 4), (21, 21, 1, 5), (23, 184, 2, 186), (26, 154, 2, 5), (29, 2, 0, 0), (30, 172, 0, 0), (31, 29, 0, 0), (32, 28, 0, 0), (33, 100, 0, 0), (34, 21, 1, 4), (36, 21, 1, 5)]
theorem da_cX4_needs_0 : fw dt_cX4_needs_0 0 cX4_needs.data.toList = true := by decide +kernel
theorem dX4_needs_0 : decode cX4_needs 0 = .ok (.iload_n 1, 1) := fo_27 (fw_get da_cX4_needs_0 0 rfl)
theorem dX4_needs_1 : decode cX4_needs 1 = .ok (.invokestatic 68, 3) := fo_184 (fw_get da_cX4_needs_0 1 rfl)
theorem dX4_needs_4 : decode cX4_needs 4 = .ok (.ifCond .eq 25, 3) := fo_153 (fw_get da_cX4_needs_0 2 rfl) (by decide +kernel)
theorem dX4_needs_7 : decode cX4_needs 7 = .ok (.aload_n 0, 1) := fo_42 (fw_get da_cX4_needs_0 3 rfl)
theorem dX4_needs_8 : decode cX4_needs 8 = .ok (.getfield 12, 3) := fo_180 (fw_get da_cX4_needs_0 4 rfl)
theorem dX4_needs_11 : decode cX4_needs 11 = .ok (.iload_n 2, 1) := fo_28 (fw_get da_cX4_needs_0 5 rfl)
theorem dX4_needs_12 : decode cX4_needs 12 = .ok (.iload_n 3, 1) := fo_29 (fw_get da_cX4_needs_0 6 rfl)
theorem dX4_needs_13 : decode cX4_needs 13 = .ok (.invokevirtual 79, 3) := fo_182 (fw_get da_cX4_needs_0 7 rfl)
theorem dX4_needs_16 : decode cX4_needs 16 = .ok (.ifCond .eq 13, 3) := fo_153 (fw_get da_cX4_needs_0 8 rfl) (by decide +kernel)
theorem dX4_needs_19 : decode cX4_needs 19 = .ok (.iload 4, 2) := fo_21 (fw_get da_cX4_needs_0 9 rfl)
theorem dX4_needs_21 : decode cX4_needs 21 = .ok (.iload 5, 2) := fo_21 (fw_get da_cX4_needs_0 10 rfl)
theorem dX4_needs_23 : decode cX4_needs 23 = .ok (.invokestatic 186, 3) := fo_184 (fw_get da_cX4_needs_0 11 rfl)
theorem dX4_needs_26 : decode cX4_needs 26 = .ok (.ifCond .ne 5, 3) := fo_154 (fw_get da_cX4_needs_0 12 rfl) (by decide +kernel)
theorem dX4_needs_29 : decode cX4_needs 29 = .ok (.iconst (-1), 1) := fo_2 (fw_get da_cX4_needs_0 13 rfl)
theorem dX4_needs_30 : decode cX4_needs 30 = .ok (.ireturn, 1) := fo_172 (fw_get da_cX4_needs_0 14 rfl)
theorem dX4_needs_31 : decode cX4_needs 31 = .ok (.iload_n 3, 1) := fo_29 (fw_get da_cX4_needs_0 15 rfl)
theorem dX4_needs_32 : decode cX4_needs 32 = .ok (.iload_n 2, 1) := fo_28 (fw_get da_cX4_needs_0 16 rfl)
theorem dX4_needs_33 : decode cX4_needs 33 = .ok (.isub, 1) := fo_100 (fw_get da_cX4_needs_0 17 rfl)
theorem dX4_needs_34 : decode cX4_needs 34 = .ok (.iload 4, 2) := fo_21 (fw_get da_cX4_needs_0 18 rfl)
theorem dX4_needs_36 : decode cX4_needs 36 = .ok (.iload 5, 2) := fo_21 (fw_get da_cX4_needs_0 19 rfl)
def dt_cX4_needs_1 : List (Nat × Nat × Nat × Nat) := [(38, 184, 2, 243), (41, 4, 0, 0), (42, 96, 0, 0), (43, 54, 1, 6), (45, 21, 1, 6), (47, 29, 0, 0), (48, 28, 0, 0), (49, 100, 0, 0), (50, 164, 2, 6), (53, 16, 1, 254), (55, 172, 0, 0), (56, 3, 0, 0), (57, 21, 1, 6), (59, 42, 0, 0), (60, 180, 2, 12), (63, 27, 0, 0), (64, 28, 0, 0), (65, 29, 0, 0), (66, 182, 2, 113), (69, 100, 0, 0)]
theorem da_cX4_needs_1 : fw dt_cX4_needs_1 0 cX4_needs.data.toList = true := by decide +kernel
theorem dX4_needs_38 : decode cX4_needs 38 = .ok (.invokestatic 243, 3) := fo_184 (fw_get da_cX4_needs_1 0 rfl)
theorem dX4_needs_41 : decode cX4_needs 41 = .ok (.iconst 1, 1) := fo_4 (fw_get da_cX4_needs_1 1 rfl)
theorem dX4_needs_42 : decode cX4_needs 42 = .ok (.iadd, 1) := fo_96 (fw_get da_cX4_needs_1 2 rfl)
theorem dX4_needs_43 : decode cX4_needs 43 = .ok (.istore 6, 2) := fo_54 (fw_get da_cX4_needs_1 3 rfl)
theorem dX4_needs_45 : decode cX4_needs 45 = .ok (.iload 6, 2) := fo_21 (fw_get da_cX4_needs_1 4 rfl)
theorem dX4_needs_47 : decode cX4_needs 47 = .ok (.iload_n 3, 1) := fo_29 (fw_get da_cX4_needs_1 5 rfl)
theorem dX4_needs_48 : decode cX4_needs 48 = .ok (.iload_n 2, 1) := fo_28 (fw_get da_cX4_needs_1 6 rfl)
theorem dX4_needs_49 : decode cX4_needs 49 = .ok (.isub, 1) := fo_100 (fw_get da_cX4_needs_1 7 rfl)
theorem dX4_needs_50 : decode cX4_needs 50 = .ok (.if_icmp .le 6, 3) := fo_164 (fw_get da_cX4_needs_1 8 rfl) (by decide +kernel)
theorem dX4_needs_53 : decode cX4_needs 53 = .ok (.bipush (-2), 2) := fo_16 (fw_get da_cX4_needs_1 9 rfl) (by decide +kernel)
theorem dX4_needs_55 : decode cX4_needs 55 = .ok (.ireturn, 1) := fo_172 (fw_get da_cX4_needs_1 10 rfl)
theorem dX4_needs_56 : decode cX4_needs 56 = .ok (.iconst 0, 1) := fo_3 (fw_get da_cX4_needs_1 11 rfl)
theorem dX4_needs_57 : decode cX4_needs 57 = .ok (.iload 6, 2) := fo_21 (fw_get da_cX4_needs_1 12 rfl)
theorem dX4_needs_59 : decode cX4_needs 59 = .ok (.aload_n 0, 1) := fo_42 (fw_get da_cX4_needs_1 13 rfl)
theorem dX4_needs_60 : decode cX4_needs 60 = .ok (.getfield 12, 3) := fo_180 (fw_get da_cX4_needs_1 14 rfl)
theorem dX4_needs_63 : decode cX4_needs 63 = .ok (.iload_n 1, 1) := fo_27 (fw_get da_cX4_needs_1 15 rfl)
theorem dX4_needs_64 : decode cX4_needs 64 = .ok (.iload_n 2, 1) := fo_28 (fw_get da_cX4_needs_1 16 rfl)
theorem dX4_needs_65 : decode cX4_needs 65 = .ok (.iload_n 3, 1) := fo_29 (fw_get da_cX4_needs_1 17 rfl)
theorem dX4_needs_66 : decode cX4_needs 66 = .ok (.invokevirtual 113, 3) := fo_182 (fw_get da_cX4_needs_1 18 rfl)
theorem dX4_needs_69 : decode cX4_needs 69 = .ok (.isub, 1) := fo_100 (fw_get da_cX4_needs_1 19 rfl)
def dt_cX4_needs_2 : List (Nat × Nat × Nat × Nat) := [(70, 184, 2, 96), (73, 172, 0, 0)]
theorem da_cX4_needs_2 : fw dt_cX4_needs_2 0 cX4_needs.data.toList = true := by decide +kernel
theorem dX4_needs_70 : decode cX4_needs 70 = .ok (.invokestatic 96, 3) := fo_184 (fw_get da_cX4_needs_2 0 rfl)
theorem dX4_needs_73 : decode cX4_needs 73 = .ok (.ireturn, 1) := fo_172 (fw_get da_cX4_needs_2 1 rfl)
theorem mi_wsX4_spares_wsX4_spares_r1 : ∀ w ∈ wsX4_spares_r1, w ∈ wsX4_spares := fun _ h => (List.mem_cons_of_mem _ (List.mem_append_left _ (List.mem_append_left _ (List.mem_append_left _ h))))
set_option maxRecDepth 20000 in
theorem ggX4_spares_X4_isValue : GoodIn wsX4_spares wsX4_isValue := goodIn_m _ [(wsX4_spares_r1, [false, false, false, false, false, false, false, false, true])] (gm_c mi_wsX4_spares_wsX4_spares_r1 gm_n) rfl (by decide +kernel)
set_option maxRecDepth 20000 in
theorem gX4_spares_X4_isValue : GoodIn wsX4_spares (va_wsS RX4 68 yX4_isValue wsX4_isValue) := goodIn_app (goodIn_m _ [(wsX4_spares_r1, [false, false, false, false, false, true, true, true])] (gm_c mi_wsX4_spares_wsX4_spares_r1 gm_n) rfl (by decide +kernel)) ggX4_spares_X4_isValue
theorem mi_wsX4_spares_wsX00 : ∀ w ∈ wsX00, w ∈ wsX4_spares := fun _ h => (List.mem_cons_of_mem _ (List.mem_append_right _ h))
set_option maxRecDepth 20000 in
theorem ggX4_spares_X0_hasRange : GoodIn wsX4_spares wsX0_hasRange := goodIn_m _ [(wsX4_spares_r1, [false, false, false, false, false, false, false, false, false, false, false, false, false, true, true]), (wsX00, [true, true])] (gm_c mi_wsX4_spares_wsX4_spares_r1 (gm_c mi_wsX4_spares_wsX00 gm_n)) rfl (by decide +kernel)
set_option maxRecDepth 20000 in
theorem gX4_spares_X0_hasRange : GoodIn wsX4_spares (wsV RX4 79 RX0 yX0_hasRange wsX0_hasRange) := goodIn_app (goodIn_m _ [(wsX4_spares_r1, [false, false, false, false, false, false, false, false, false, true, true, true, true])] (gm_c mi_wsX4_spares_wsX4_spares_r1 gm_n) rfl (by decide +kernel)) ggX4_spares_X0_hasRange
set_option maxRecDepth 20000 in
theorem ggX4_spares_X4_isShare : GoodIn wsX4_spares wsX4_isShare := goodIn_m _ [(wsX4_spares_r1, [false, false, false, false, false, false, false, false, false, false, false, false, false, false, false, false, false, true])] (gm_c mi_wsX4_spares_wsX4_spares_r1 gm_n) rfl (by decide +kernel)
set_option maxRecDepth 20000 in
theorem gX4_spares_X4_isShare : GoodIn wsX4_spares (va_wsS RX4 186 yX4_isShare wsX4_isShare) := goodIn_app (goodIn_m _ [(wsX4_spares_r1, [false, false, false, false, false, false, false, false, false, false, false, false, false, false, false, true, true]), (wsX4_spares_r1, [false, false, false, false, false, false, false, true])] (gm_c mi_wsX4_spares_wsX4_spares_r1 (gm_c mi_wsX4_spares_wsX4_spares_r1 gm_n)) rfl (by decide +kernel)) ggX4_spares_X4_isShare
set_option maxRecDepth 20000 in
theorem ggX4_spares_X0_oftenIn : GoodIn wsX4_spares wsX0_oftenIn := goodIn_m _ [(wsX4_spares_r1, [false, false, false, false, false, false, false, false, false, false, false, false, false, false, false, false, false, false, false, false, false, true, true]), (wsX00, [true, true])] (gm_c mi_wsX4_spares_wsX4_spares_r1 (gm_c mi_wsX4_spares_wsX00 gm_n)) rfl (by decide +kernel)
set_option maxRecDepth 20000 in
theorem gX4_spares_X0_oftenIn : GoodIn wsX4_spares (wsV RX4 113 RX0 yX0_oftenIn wsX0_oftenIn) := goodIn_app (goodIn_m _ [(wsX4_spares_r1, [false, false, false, false, false, false, false, false, false, false, false, false, false, false, false, false, false, false, true, true, true]), (wsX4_spares_r1, [false, false, false, false, false, false, false, false, false, false, false, false, true])] (gm_c mi_wsX4_spares_wsX4_spares_r1 (gm_c mi_wsX4_spares_wsX4_spares_r1 gm_n)) rfl (by decide +kernel)) ggX4_spares_X0_oftenIn
theorem mi_wsX4_spares_wsX4_spares_r2 : ∀ w ∈ wsX4_spares_r2, w ∈ wsX4_spares := fun _ h => (List.mem_cons_of_mem _ (List.mem_append_left _ (List.mem_append_left _ (List.mem_append_right _ h))))
set_option maxRecDepth 20000 in
theorem ggX4_spares_X4_mostWithoutHeavy : GoodIn wsX4_spares wsX4_mostWithoutHeavy := goodIn_m _ [(wsX4_spares_r2, [false, true])] (gm_c mi_wsX4_spares_wsX4_spares_r2 gm_n) rfl (by decide +kernel)
set_option maxRecDepth 20000 in
theorem gX4_spares_X4_mostWithoutHeavy : GoodIn wsX4_spares (va_wsS RX4 243 yX4_mostWithoutHeavy wsX4_mostWithoutHeavy) := goodIn_app (goodIn_m _ [(wsX4_spares_r1, [false, false, false, false, false, false, false, false, false, false, false, false, false, false, false, false, false, false, false, false, false, false, false, true]), (wsX4_spares_r2, [true]), (wsX4_spares_r1, [false, false, false, false, false, false, false, true])] (gm_c mi_wsX4_spares_wsX4_spares_r1 (gm_c mi_wsX4_spares_wsX4_spares_r2 (gm_c mi_wsX4_spares_wsX4_spares_r1 gm_n))) rfl (by decide +kernel)) ggX4_spares_X4_mostWithoutHeavy
def dt_cX4_spares_0 : List (Nat × Nat × Nat × Nat) := [(0, 27, 0, 0), (1, 184, 2, 68), (4, 153, 2, 25), (7, 42, 0, 0), (8, 180, 2, 12), (11, 28, 0, 0), (12, 29, 0, 0), (13, 182, 2, 79), (16, 153, 2, 13), (19, 21, 1, 4), (21, 21, 1, 5), (23, 184, 2, 186), (26, 154, 2, 5), (29, 2, 0, 0), (30, 172, 0, 0), (31, 3, 0, 0), (32, 42, 0, 0), (33, 180, 2, 12), (36, 27, 0, 0), (37, 28, 0, 0)]
theorem da_cX4_spares_0 : fw dt_cX4_spares_0 0 cX4_spares.data.toList = true := by decide +kernel
theorem dX4_spares_0 : decode cX4_spares 0 = .ok (.iload_n 1, 1) := fo_27 (fw_get da_cX4_spares_0 0 rfl)
theorem dX4_spares_1 : decode cX4_spares 1 = .ok (.invokestatic 68, 3) := fo_184 (fw_get da_cX4_spares_0 1 rfl)
theorem dX4_spares_4 : decode cX4_spares 4 = .ok (.ifCond .eq 25, 3) := fo_153 (fw_get da_cX4_spares_0 2 rfl) (by decide +kernel)
theorem dX4_spares_7 : decode cX4_spares 7 = .ok (.aload_n 0, 1) := fo_42 (fw_get da_cX4_spares_0 3 rfl)
theorem dX4_spares_8 : decode cX4_spares 8 = .ok (.getfield 12, 3) := fo_180 (fw_get da_cX4_spares_0 4 rfl)
theorem dX4_spares_11 : decode cX4_spares 11 = .ok (.iload_n 2, 1) := fo_28 (fw_get da_cX4_spares_0 5 rfl)
theorem dX4_spares_12 : decode cX4_spares 12 = .ok (.iload_n 3, 1) := fo_29 (fw_get da_cX4_spares_0 6 rfl)
theorem dX4_spares_13 : decode cX4_spares 13 = .ok (.invokevirtual 79, 3) := fo_182 (fw_get da_cX4_spares_0 7 rfl)
theorem dX4_spares_16 : decode cX4_spares 16 = .ok (.ifCond .eq 13, 3) := fo_153 (fw_get da_cX4_spares_0 8 rfl) (by decide +kernel)
theorem dX4_spares_19 : decode cX4_spares 19 = .ok (.iload 4, 2) := fo_21 (fw_get da_cX4_spares_0 9 rfl)
theorem dX4_spares_21 : decode cX4_spares 21 = .ok (.iload 5, 2) := fo_21 (fw_get da_cX4_spares_0 10 rfl)
theorem dX4_spares_23 : decode cX4_spares 23 = .ok (.invokestatic 186, 3) := fo_184 (fw_get da_cX4_spares_0 11 rfl)
theorem dX4_spares_26 : decode cX4_spares 26 = .ok (.ifCond .ne 5, 3) := fo_154 (fw_get da_cX4_spares_0 12 rfl) (by decide +kernel)
theorem dX4_spares_29 : decode cX4_spares 29 = .ok (.iconst (-1), 1) := fo_2 (fw_get da_cX4_spares_0 13 rfl)
theorem dX4_spares_30 : decode cX4_spares 30 = .ok (.ireturn, 1) := fo_172 (fw_get da_cX4_spares_0 14 rfl)
theorem dX4_spares_31 : decode cX4_spares 31 = .ok (.iconst 0, 1) := fo_3 (fw_get da_cX4_spares_0 15 rfl)
theorem dX4_spares_32 : decode cX4_spares 32 = .ok (.aload_n 0, 1) := fo_42 (fw_get da_cX4_spares_0 16 rfl)
theorem dX4_spares_33 : decode cX4_spares 33 = .ok (.getfield 12, 3) := fo_180 (fw_get da_cX4_spares_0 17 rfl)
theorem dX4_spares_36 : decode cX4_spares 36 = .ok (.iload_n 1, 1) := fo_27 (fw_get da_cX4_spares_0 18 rfl)
theorem dX4_spares_37 : decode cX4_spares 37 = .ok (.iload_n 2, 1) := fo_28 (fw_get da_cX4_spares_0 19 rfl)
def dt_cX4_spares_1 : List (Nat × Nat × Nat × Nat) := [(38, 29, 0, 0), (39, 182, 2, 113), (42, 29, 0, 0), (43, 28, 0, 0), (44, 100, 0, 0), (45, 21, 1, 4), (47, 21, 1, 5), (49, 184, 2, 243), (52, 100, 0, 0), (53, 184, 2, 96), (56, 172, 0, 0)]
theorem da_cX4_spares_1 : fw dt_cX4_spares_1 0 cX4_spares.data.toList = true := by decide +kernel
theorem dX4_spares_38 : decode cX4_spares 38 = .ok (.iload_n 3, 1) := fo_29 (fw_get da_cX4_spares_1 0 rfl)
theorem dX4_spares_39 : decode cX4_spares 39 = .ok (.invokevirtual 113, 3) := fo_182 (fw_get da_cX4_spares_1 1 rfl)
theorem dX4_spares_42 : decode cX4_spares 42 = .ok (.iload_n 3, 1) := fo_29 (fw_get da_cX4_spares_1 2 rfl)
theorem dX4_spares_43 : decode cX4_spares 43 = .ok (.iload_n 2, 1) := fo_28 (fw_get da_cX4_spares_1 3 rfl)
theorem dX4_spares_44 : decode cX4_spares 44 = .ok (.isub, 1) := fo_100 (fw_get da_cX4_spares_1 4 rfl)
theorem dX4_spares_45 : decode cX4_spares 45 = .ok (.iload 4, 2) := fo_21 (fw_get da_cX4_spares_1 5 rfl)
theorem dX4_spares_47 : decode cX4_spares 47 = .ok (.iload 5, 2) := fo_21 (fw_get da_cX4_spares_1 6 rfl)
theorem dX4_spares_49 : decode cX4_spares 49 = .ok (.invokestatic 243, 3) := fo_184 (fw_get da_cX4_spares_1 7 rfl)
theorem dX4_spares_52 : decode cX4_spares 52 = .ok (.isub, 1) := fo_100 (fw_get da_cX4_spares_1 8 rfl)
theorem dX4_spares_53 : decode cX4_spares 53 = .ok (.invokestatic 96, 3) := fo_184 (fw_get da_cX4_spares_1 9 rfl)
theorem dX4_spares_56 : decode cX4_spares 56 = .ok (.ireturn, 1) := fo_172 (fw_get da_cX4_spares_1 10 rfl)
theorem mi_wsX4_would_wsX4_would_r1 : ∀ w ∈ wsX4_would_r1, w ∈ wsX4_would := fun _ h => (List.mem_cons_of_mem _ (List.mem_append_left _ (List.mem_append_left _ (List.mem_append_left _ h))))
theorem mi_wsX4_would_wsX00 : ∀ w ∈ wsX00, w ∈ wsX4_would := fun _ h => (List.mem_cons_of_mem _ (List.mem_append_right _ h))
set_option maxRecDepth 20000 in
theorem ggX4_would_X0_hasPlace : GoodIn wsX4_would wsX0_hasPlace := goodIn_m _ [(wsX4_would_r1, [false, false, false, false, false, false, false, true, true]), (wsX00, [true, true])] (gm_c mi_wsX4_would_wsX4_would_r1 (gm_c mi_wsX4_would_wsX00 gm_n)) rfl (by decide +kernel)
set_option maxRecDepth 20000 in
theorem gX4_would_X0_hasPlace : GoodIn wsX4_would (wsV RX4 64 RX0 yX0_hasPlace wsX0_hasPlace) := goodIn_app (goodIn_m _ [(wsX4_would_r1, [false, false, false, true, true, true, true])] (gm_c mi_wsX4_would_wsX4_would_r1 gm_n) rfl (by decide +kernel)) ggX4_would_X0_hasPlace
set_option maxRecDepth 20000 in
theorem ggX4_would_X4_isValue : GoodIn wsX4_would wsX4_isValue := goodIn_m _ [(wsX4_would_r1, [false, false, false, false, false, false, false, false, false, false, false, false, true])] (gm_c mi_wsX4_would_wsX4_would_r1 gm_n) rfl (by decide +kernel)
set_option maxRecDepth 20000 in
theorem gX4_would_X4_isValue : GoodIn wsX4_would (va_wsS RX4 68 yX4_isValue wsX4_isValue) := goodIn_app (goodIn_m _ [(wsX4_would_r1, [false, false, false, false, false, false, false, false, false, true, true, true])] (gm_c mi_wsX4_would_wsX4_would_r1 gm_n) rfl (by decide +kernel)) ggX4_would_X4_isValue
set_option maxRecDepth 20000 in
theorem ggX4_would_X0_hasRange : GoodIn wsX4_would wsX0_hasRange := goodIn_m _ [(wsX4_would_r1, [false, false, false, false, false, false, false, false, false, false, false, false, false, false, false, false, true]), (wsX4_would_r1, [false, false, false, false, false, false, false, false, true]), (wsX00, [true, true])] (gm_c mi_wsX4_would_wsX4_would_r1 (gm_c mi_wsX4_would_wsX4_would_r1 (gm_c mi_wsX4_would_wsX00 gm_n))) rfl (by decide +kernel)
set_option maxRecDepth 20000 in
theorem gX4_would_X0_hasRange : GoodIn wsX4_would (wsV RX4 79 RX0 yX0_hasRange wsX0_hasRange) := goodIn_app (goodIn_m _ [(wsX4_would_r1, [false, false, false, false, false, false, false, false, false, false, false, false, false, true, true, true]), (wsX4_would_r1, [false, false, false, false, false, false, true])] (gm_c mi_wsX4_would_wsX4_would_r1 (gm_c mi_wsX4_would_wsX4_would_r1 gm_n)) rfl (by decide +kernel)) ggX4_would_X0_hasRange
theorem mi_wsX4_would_wsX4_would_r2 : ∀ w ∈ wsX4_would_r2, w ∈ wsX4_would := fun _ h => (List.mem_cons_of_mem _ (List.mem_append_left _ (List.mem_append_left _ (List.mem_append_right _ h))))
set_option maxRecDepth 20000 in
theorem ggX4_would_X0_leader : GoodIn wsX4_would wsX0_leader := goodIn_m _ [(wsX4_would_r1, [false, false, false, false, false, false, false, false, false, false, false, false, false, false, false, false, false, false, false, false, true, true, true, true]), (wsX4_would_r2, [true, true]), (wsX4_would_r1, [false, false, false, false, false, false, true]), (wsX4_would_r2, [false, false, true, true]), (wsX4_would_r1, [false, false, false, false, false, false, false, false, false, false, false, true]), (wsX4_would_r2, [false, false, false, false, true]), (wsX00, [true, true])] (gm_c mi_wsX4_would_wsX4_would_r1 (gm_c mi_wsX4_would_wsX4_would_r2 (gm_c mi_wsX4_would_wsX4_would_r1 (gm_c mi_wsX4_would_wsX4_would_r2 (gm_c mi_wsX4_would_wsX4_would_r1 (gm_c mi_wsX4_would_wsX4_would_r2 (gm_c mi_wsX4_would_wsX00 gm_n))))))) rfl (by decide +kernel)
set_option maxRecDepth 20000 in
theorem gX4_would_X0_leader : GoodIn wsX4_would (wsV RX4 207 RX0 yX0_leader wsX0_leader) := goodIn_app (goodIn_m _ [(wsX4_would_r1, [false, false, false, false, false, false, false, false, false, false, false, false, false, false, false, false, false, true, true, true]), (wsX4_would_r1, [false, false, false, false, false, false, true])] (gm_c mi_wsX4_would_wsX4_would_r1 (gm_c mi_wsX4_would_wsX4_would_r1 gm_n)) rfl (by decide +kernel)) ggX4_would_X0_leader
def dt_cX4_would_0 : List (Nat × Nat × Nat × Nat) := [(0, 42, 0, 0), (1, 180, 2, 12), (4, 27, 0, 0), (5, 182, 2, 64), (8, 153, 2, 23), (11, 28, 0, 0), (12, 184, 2, 68), (15, 153, 2, 16), (18, 42, 0, 0), (19, 180, 2, 12), (22, 29, 0, 0), (23, 21, 1, 4), (25, 182, 2, 79), (28, 154, 2, 6), (31, 18, 1, 102), (33, 172, 0, 0), (34, 42, 0, 0), (35, 180, 2, 12), (38, 180, 2, 110), (41, 27, 0, 0)]
theorem da_cX4_would_0 : fw dt_cX4_would_0 0 cX4_would.data.toList = true := by decide +kernel
theorem dX4_would_0 : decode cX4_would 0 = .ok (.aload_n 0, 1) := fo_42 (fw_get da_cX4_would_0 0 rfl)
theorem dX4_would_1 : decode cX4_would 1 = .ok (.getfield 12, 3) := fo_180 (fw_get da_cX4_would_0 1 rfl)
theorem dX4_would_4 : decode cX4_would 4 = .ok (.iload_n 1, 1) := fo_27 (fw_get da_cX4_would_0 2 rfl)
theorem dX4_would_5 : decode cX4_would 5 = .ok (.invokevirtual 64, 3) := fo_182 (fw_get da_cX4_would_0 3 rfl)
theorem dX4_would_8 : decode cX4_would 8 = .ok (.ifCond .eq 23, 3) := fo_153 (fw_get da_cX4_would_0 4 rfl) (by decide +kernel)
theorem dX4_would_11 : decode cX4_would 11 = .ok (.iload_n 2, 1) := fo_28 (fw_get da_cX4_would_0 5 rfl)
theorem dX4_would_12 : decode cX4_would 12 = .ok (.invokestatic 68, 3) := fo_184 (fw_get da_cX4_would_0 6 rfl)
theorem dX4_would_15 : decode cX4_would 15 = .ok (.ifCond .eq 16, 3) := fo_153 (fw_get da_cX4_would_0 7 rfl) (by decide +kernel)
theorem dX4_would_18 : decode cX4_would 18 = .ok (.aload_n 0, 1) := fo_42 (fw_get da_cX4_would_0 8 rfl)
theorem dX4_would_19 : decode cX4_would 19 = .ok (.getfield 12, 3) := fo_180 (fw_get da_cX4_would_0 9 rfl)
theorem dX4_would_22 : decode cX4_would 22 = .ok (.iload_n 3, 1) := fo_29 (fw_get da_cX4_would_0 10 rfl)
theorem dX4_would_23 : decode cX4_would 23 = .ok (.iload 4, 2) := fo_21 (fw_get da_cX4_would_0 11 rfl)
theorem dX4_would_25 : decode cX4_would 25 = .ok (.invokevirtual 79, 3) := fo_182 (fw_get da_cX4_would_0 12 rfl)
theorem dX4_would_28 : decode cX4_would 28 = .ok (.ifCond .ne 6, 3) := fo_154 (fw_get da_cX4_would_0 13 rfl) (by decide +kernel)
theorem dX4_would_31 : decode cX4_would 31 = .ok (.ldc 102, 2) := fo_18 (fw_get da_cX4_would_0 14 rfl)
theorem dX4_would_33 : decode cX4_would 33 = .ok (.ireturn, 1) := fo_172 (fw_get da_cX4_would_0 15 rfl)
theorem dX4_would_34 : decode cX4_would 34 = .ok (.aload_n 0, 1) := fo_42 (fw_get da_cX4_would_0 16 rfl)
theorem dX4_would_35 : decode cX4_would 35 = .ok (.getfield 12, 3) := fo_180 (fw_get da_cX4_would_0 17 rfl)
theorem dX4_would_38 : decode cX4_would 38 = .ok (.getfield 110, 3) := fo_180 (fw_get da_cX4_would_0 18 rfl)
theorem dX4_would_41 : decode cX4_would 41 = .ok (.iload_n 1, 1) := fo_27 (fw_get da_cX4_would_0 19 rfl)
def dt_cX4_would_1 : List (Nat × Nat × Nat × Nat) := [(42, 46, 0, 0), (43, 54, 1, 5), (45, 42, 0, 0), (46, 180, 2, 12), (49, 180, 2, 110), (52, 27, 0, 0), (53, 28, 0, 0), (54, 79, 0, 0), (55, 42, 0, 0), (56, 180, 2, 12), (59, 29, 0, 0), (60, 21, 1, 4), (62, 182, 2, 207), (65, 54, 1, 6), (67, 42, 0, 0), (68, 180, 2, 12), (71, 180, 2, 110), (74, 27, 0, 0), (75, 21, 1, 5), (77, 79, 0, 0)]
theorem da_cX4_would_1 : fw dt_cX4_would_1 0 cX4_would.data.toList = true := by decide +kernel
theorem dX4_would_42 : decode cX4_would 42 = .ok (.iaload, 1) := fo_46 (fw_get da_cX4_would_1 0 rfl)
theorem dX4_would_43 : decode cX4_would 43 = .ok (.istore 5, 2) := fo_54 (fw_get da_cX4_would_1 1 rfl)
theorem dX4_would_45 : decode cX4_would 45 = .ok (.aload_n 0, 1) := fo_42 (fw_get da_cX4_would_1 2 rfl)
theorem dX4_would_46 : decode cX4_would 46 = .ok (.getfield 12, 3) := fo_180 (fw_get da_cX4_would_1 3 rfl)
theorem dX4_would_49 : decode cX4_would 49 = .ok (.getfield 110, 3) := fo_180 (fw_get da_cX4_would_1 4 rfl)
theorem dX4_would_52 : decode cX4_would 52 = .ok (.iload_n 1, 1) := fo_27 (fw_get da_cX4_would_1 5 rfl)
theorem dX4_would_53 : decode cX4_would 53 = .ok (.iload_n 2, 1) := fo_28 (fw_get da_cX4_would_1 6 rfl)
theorem dX4_would_54 : decode cX4_would 54 = .ok (.iastore, 1) := fo_79 (fw_get da_cX4_would_1 7 rfl)
theorem dX4_would_55 : decode cX4_would 55 = .ok (.aload_n 0, 1) := fo_42 (fw_get da_cX4_would_1 8 rfl)
theorem dX4_would_56 : decode cX4_would 56 = .ok (.getfield 12, 3) := fo_180 (fw_get da_cX4_would_1 9 rfl)
theorem dX4_would_59 : decode cX4_would 59 = .ok (.iload_n 3, 1) := fo_29 (fw_get da_cX4_would_1 10 rfl)
theorem dX4_would_60 : decode cX4_would 60 = .ok (.iload 4, 2) := fo_21 (fw_get da_cX4_would_1 11 rfl)
theorem dX4_would_62 : decode cX4_would 62 = .ok (.invokevirtual 207, 3) := fo_182 (fw_get da_cX4_would_1 12 rfl)
theorem dX4_would_65 : decode cX4_would 65 = .ok (.istore 6, 2) := fo_54 (fw_get da_cX4_would_1 13 rfl)
theorem dX4_would_67 : decode cX4_would 67 = .ok (.aload_n 0, 1) := fo_42 (fw_get da_cX4_would_1 14 rfl)
theorem dX4_would_68 : decode cX4_would 68 = .ok (.getfield 12, 3) := fo_180 (fw_get da_cX4_would_1 15 rfl)
theorem dX4_would_71 : decode cX4_would 71 = .ok (.getfield 110, 3) := fo_180 (fw_get da_cX4_would_1 16 rfl)
theorem dX4_would_74 : decode cX4_would 74 = .ok (.iload_n 1, 1) := fo_27 (fw_get da_cX4_would_1 17 rfl)
theorem dX4_would_75 : decode cX4_would 75 = .ok (.iload 5, 2) := fo_21 (fw_get da_cX4_would_1 18 rfl)
theorem dX4_would_77 : decode cX4_would 77 = .ok (.iastore, 1) := fo_79 (fw_get da_cX4_would_1 19 rfl)
def dt_cX4_would_2 : List (Nat × Nat × Nat × Nat) := [(78, 21, 1, 6), (80, 172, 0, 0)]
theorem da_cX4_would_2 : fw dt_cX4_would_2 0 cX4_would.data.toList = true := by decide +kernel
theorem dX4_would_78 : decode cX4_would 78 = .ok (.iload 6, 2) := fo_21 (fw_get da_cX4_would_2 0 rfl)
theorem dX4_would_80 : decode cX4_would 80 = .ok (.ireturn, 1) := fo_172 (fw_get da_cX4_would_2 1 rfl)
def dt_cX4_mostWithoutHeavy_0 : List (Nat × Nat × Nat × Nat) := [(0, 28, 0, 0), (1, 158, 2, 11), (4, 27, 0, 0), (5, 26, 0, 0), (6, 104, 0, 0), (7, 28, 0, 0), (8, 108, 0, 0), (9, 167, 2, 4), (12, 3, 0, 0), (13, 172, 0, 0)]
theorem da_cX4_mostWithoutHeavy_0 : fw dt_cX4_mostWithoutHeavy_0 0 cX4_mostWithoutHeavy.data.toList = true := by decide +kernel
theorem dX4_mostWithoutHeavy_0 : decode cX4_mostWithoutHeavy 0 = .ok (.iload_n 2, 1) := fo_28 (fw_get da_cX4_mostWithoutHeavy_0 0 rfl)
theorem dX4_mostWithoutHeavy_1 : decode cX4_mostWithoutHeavy 1 = .ok (.ifCond .le 11, 3) := fo_158 (fw_get da_cX4_mostWithoutHeavy_0 1 rfl) (by decide +kernel)
theorem dX4_mostWithoutHeavy_4 : decode cX4_mostWithoutHeavy 4 = .ok (.iload_n 1, 1) := fo_27 (fw_get da_cX4_mostWithoutHeavy_0 2 rfl)
theorem dX4_mostWithoutHeavy_5 : decode cX4_mostWithoutHeavy 5 = .ok (.iload_n 0, 1) := fo_26 (fw_get da_cX4_mostWithoutHeavy_0 3 rfl)
theorem dX4_mostWithoutHeavy_6 : decode cX4_mostWithoutHeavy 6 = .ok (.imul, 1) := fo_104 (fw_get da_cX4_mostWithoutHeavy_0 4 rfl)
theorem dX4_mostWithoutHeavy_7 : decode cX4_mostWithoutHeavy 7 = .ok (.iload_n 2, 1) := fo_28 (fw_get da_cX4_mostWithoutHeavy_0 5 rfl)
theorem dX4_mostWithoutHeavy_8 : decode cX4_mostWithoutHeavy 8 = .ok (.idiv, 1) := fo_108 (fw_get da_cX4_mostWithoutHeavy_0 6 rfl)
theorem dX4_mostWithoutHeavy_9 : decode cX4_mostWithoutHeavy 9 = .ok (.goto 4, 3) := fo_167 (fw_get da_cX4_mostWithoutHeavy_0 7 rfl) (by decide +kernel)
theorem dX4_mostWithoutHeavy_12 : decode cX4_mostWithoutHeavy 12 = .ok (.iconst 0, 1) := fo_3 (fw_get da_cX4_mostWithoutHeavy_0 8 rfl)
theorem dX4_mostWithoutHeavy_13 : decode cX4_mostWithoutHeavy 13 = .ok (.ireturn, 1) := fo_172 (fw_get da_cX4_mostWithoutHeavy_0 9 rfl)
set_option maxRecDepth 20000 in
theorem ggX4_farthestHeavy_X4_isHeavy : GoodIn wsX4_farthestHeavy wsX4_isHeavy := goodIn_r _ [7] rfl (by decide +kernel)
set_option maxRecDepth 20000 in
theorem gX4_farthestHeavy_X4_isHeavy : GoodIn wsX4_farthestHeavy (va_wsS RX4 273 yX4_isHeavy wsX4_isHeavy) := goodIn_app (goodIn_r _ [4, 5, 6] rfl (by decide +kernel)) ggX4_farthestHeavy_X4_isHeavy
def dt_cX4_farthestHeavy_0 : List (Nat × Nat × Nat × Nat) := [(0, 2, 0, 0), (1, 54, 1, 5), (3, 3, 0, 0), (4, 54, 1, 6), (6, 28, 0, 0), (7, 54, 1, 7), (9, 21, 1, 7), (11, 42, 0, 0), (12, 180, 2, 12), (15, 180, 2, 57), (18, 162, 2, 49), (21, 42, 0, 0), (22, 180, 2, 12), (25, 180, 2, 110), (28, 21, 1, 7), (30, 46, 0, 0), (31, 27, 0, 0), (32, 160, 2, 6), (35, 132, 2, 1537), (38, 21, 1, 6)]
theorem da_cX4_farthestHeavy_0 : fw dt_cX4_farthestHeavy_0 0 cX4_farthestHeavy.data.toList = true := by decide +kernel
theorem dX4_farthestHeavy_0 : decode cX4_farthestHeavy 0 = .ok (.iconst (-1), 1) := fo_2 (fw_get da_cX4_farthestHeavy_0 0 rfl)
theorem dX4_farthestHeavy_1 : decode cX4_farthestHeavy 1 = .ok (.istore 5, 2) := fo_54 (fw_get da_cX4_farthestHeavy_0 1 rfl)
theorem dX4_farthestHeavy_3 : decode cX4_farthestHeavy 3 = .ok (.iconst 0, 1) := fo_3 (fw_get da_cX4_farthestHeavy_0 2 rfl)
theorem dX4_farthestHeavy_4 : decode cX4_farthestHeavy 4 = .ok (.istore 6, 2) := fo_54 (fw_get da_cX4_farthestHeavy_0 3 rfl)
theorem dX4_farthestHeavy_6 : decode cX4_farthestHeavy 6 = .ok (.iload_n 2, 1) := fo_28 (fw_get da_cX4_farthestHeavy_0 4 rfl)
theorem dX4_farthestHeavy_7 : decode cX4_farthestHeavy 7 = .ok (.istore 7, 2) := fo_54 (fw_get da_cX4_farthestHeavy_0 5 rfl)
theorem dX4_farthestHeavy_9 : decode cX4_farthestHeavy 9 = .ok (.iload 7, 2) := fo_21 (fw_get da_cX4_farthestHeavy_0 6 rfl)
theorem dX4_farthestHeavy_11 : decode cX4_farthestHeavy 11 = .ok (.aload_n 0, 1) := fo_42 (fw_get da_cX4_farthestHeavy_0 7 rfl)
theorem dX4_farthestHeavy_12 : decode cX4_farthestHeavy 12 = .ok (.getfield 12, 3) := fo_180 (fw_get da_cX4_farthestHeavy_0 8 rfl)
theorem dX4_farthestHeavy_15 : decode cX4_farthestHeavy 15 = .ok (.getfield 57, 3) := fo_180 (fw_get da_cX4_farthestHeavy_0 9 rfl)
theorem dX4_farthestHeavy_18 : decode cX4_farthestHeavy 18 = .ok (.if_icmp .ge 49, 3) := fo_162 (fw_get da_cX4_farthestHeavy_0 10 rfl) (by decide +kernel)
theorem dX4_farthestHeavy_21 : decode cX4_farthestHeavy 21 = .ok (.aload_n 0, 1) := fo_42 (fw_get da_cX4_farthestHeavy_0 11 rfl)
theorem dX4_farthestHeavy_22 : decode cX4_farthestHeavy 22 = .ok (.getfield 12, 3) := fo_180 (fw_get da_cX4_farthestHeavy_0 12 rfl)
theorem dX4_farthestHeavy_25 : decode cX4_farthestHeavy 25 = .ok (.getfield 110, 3) := fo_180 (fw_get da_cX4_farthestHeavy_0 13 rfl)
theorem dX4_farthestHeavy_28 : decode cX4_farthestHeavy 28 = .ok (.iload 7, 2) := fo_21 (fw_get da_cX4_farthestHeavy_0 14 rfl)
theorem dX4_farthestHeavy_30 : decode cX4_farthestHeavy 30 = .ok (.iaload, 1) := fo_46 (fw_get da_cX4_farthestHeavy_0 15 rfl)
theorem dX4_farthestHeavy_31 : decode cX4_farthestHeavy 31 = .ok (.iload_n 1, 1) := fo_27 (fw_get da_cX4_farthestHeavy_0 16 rfl)
theorem dX4_farthestHeavy_32 : decode cX4_farthestHeavy 32 = .ok (.if_icmp .ne 6, 3) := fo_160 (fw_get da_cX4_farthestHeavy_0 17 rfl) (by decide +kernel)
theorem dX4_farthestHeavy_35 : decode cX4_farthestHeavy 35 = .ok (.iinc 6 1, 3) := fo_132 (fw_get da_cX4_farthestHeavy_0 18 rfl) rfl (by decide +kernel)
theorem dX4_farthestHeavy_38 : decode cX4_farthestHeavy 38 = .ok (.iload 6, 2) := fo_21 (fw_get da_cX4_farthestHeavy_0 19 rfl)
def dt_cX4_farthestHeavy_1 : List (Nat × Nat × Nat × Nat) := [(40, 21, 1, 7), (42, 4, 0, 0), (43, 96, 0, 0), (44, 28, 0, 0), (45, 100, 0, 0), (46, 29, 0, 0), (47, 21, 1, 4), (49, 184, 2, 273), (52, 153, 2, 9), (55, 21, 1, 7), (57, 4, 0, 0), (58, 96, 0, 0), (59, 54, 1, 5), (61, 132, 2, 1793), (64, 167, 2, 65481), (67, 21, 1, 5), (69, 172, 0, 0)]
theorem da_cX4_farthestHeavy_1 : fw dt_cX4_farthestHeavy_1 0 cX4_farthestHeavy.data.toList = true := by decide +kernel
theorem dX4_farthestHeavy_40 : decode cX4_farthestHeavy 40 = .ok (.iload 7, 2) := fo_21 (fw_get da_cX4_farthestHeavy_1 0 rfl)
theorem dX4_farthestHeavy_42 : decode cX4_farthestHeavy 42 = .ok (.iconst 1, 1) := fo_4 (fw_get da_cX4_farthestHeavy_1 1 rfl)
theorem dX4_farthestHeavy_43 : decode cX4_farthestHeavy 43 = .ok (.iadd, 1) := fo_96 (fw_get da_cX4_farthestHeavy_1 2 rfl)
theorem dX4_farthestHeavy_44 : decode cX4_farthestHeavy 44 = .ok (.iload_n 2, 1) := fo_28 (fw_get da_cX4_farthestHeavy_1 3 rfl)
theorem dX4_farthestHeavy_45 : decode cX4_farthestHeavy 45 = .ok (.isub, 1) := fo_100 (fw_get da_cX4_farthestHeavy_1 4 rfl)
theorem dX4_farthestHeavy_46 : decode cX4_farthestHeavy 46 = .ok (.iload_n 3, 1) := fo_29 (fw_get da_cX4_farthestHeavy_1 5 rfl)
theorem dX4_farthestHeavy_47 : decode cX4_farthestHeavy 47 = .ok (.iload 4, 2) := fo_21 (fw_get da_cX4_farthestHeavy_1 6 rfl)
theorem dX4_farthestHeavy_49 : decode cX4_farthestHeavy 49 = .ok (.invokestatic 273, 3) := fo_184 (fw_get da_cX4_farthestHeavy_1 7 rfl)
theorem dX4_farthestHeavy_52 : decode cX4_farthestHeavy 52 = .ok (.ifCond .eq 9, 3) := fo_153 (fw_get da_cX4_farthestHeavy_1 8 rfl) (by decide +kernel)
theorem dX4_farthestHeavy_55 : decode cX4_farthestHeavy 55 = .ok (.iload 7, 2) := fo_21 (fw_get da_cX4_farthestHeavy_1 9 rfl)
theorem dX4_farthestHeavy_57 : decode cX4_farthestHeavy 57 = .ok (.iconst 1, 1) := fo_4 (fw_get da_cX4_farthestHeavy_1 10 rfl)
theorem dX4_farthestHeavy_58 : decode cX4_farthestHeavy 58 = .ok (.iadd, 1) := fo_96 (fw_get da_cX4_farthestHeavy_1 11 rfl)
theorem dX4_farthestHeavy_59 : decode cX4_farthestHeavy 59 = .ok (.istore 5, 2) := fo_54 (fw_get da_cX4_farthestHeavy_1 12 rfl)
theorem dX4_farthestHeavy_61 : decode cX4_farthestHeavy 61 = .ok (.iinc 7 1, 3) := fo_132 (fw_get da_cX4_farthestHeavy_1 13 rfl) rfl (by decide +kernel)
theorem dX4_farthestHeavy_64 : decode cX4_farthestHeavy 64 = .ok (.goto (-55), 3) := fo_167 (fw_get da_cX4_farthestHeavy_1 14 rfl) (by decide +kernel)
theorem dX4_farthestHeavy_67 : decode cX4_farthestHeavy 67 = .ok (.iload 5, 2) := fo_21 (fw_get da_cX4_farthestHeavy_1 15 rfl)
theorem dX4_farthestHeavy_69 : decode cX4_farthestHeavy 69 = .ok (.ireturn, 1) := fo_172 (fw_get da_cX4_farthestHeavy_1 16 rfl)
theorem mi_wsX4_slideWindow_wsX4_slideWindow_r1 : ∀ w ∈ wsX4_slideWindow_r1, w ∈ wsX4_slideWindow := fun _ h => (List.mem_cons_of_mem _ (List.mem_append_left _ (List.mem_append_left _ (List.mem_append_left _ (List.mem_append_left _ h)))))
theorem mi_wsX4_slideWindow_wsX00 : ∀ w ∈ wsX00, w ∈ wsX4_slideWindow := fun _ h => (List.mem_cons_of_mem _ (List.mem_append_left _ (List.mem_append_right _ h)))
theorem mi_wsX4_slideWindow_wsX10 : ∀ w ∈ wsX10, w ∈ wsX4_slideWindow := fun _ h => (List.mem_cons_of_mem _ (List.mem_append_right _ h))
set_option maxRecDepth 20000 in
theorem ggX4_slideWindow_X1_learn : GoodIn wsX4_slideWindow wsX1_learn := goodIn_m _ [(wsX4_slideWindow_r1, [false, false, false, false, false, false, false, false, true, true, true, true, true, true, true, true, true]), (wsX00, [true, true]), (wsX10, [true, true, true, true])] (gm_c mi_wsX4_slideWindow_wsX4_slideWindow_r1 (gm_c mi_wsX4_slideWindow_wsX00 (gm_c mi_wsX4_slideWindow_wsX10 gm_n))) rfl (by decide +kernel)
set_option maxRecDepth 20000 in
theorem gX4_slideWindow_X1_learn : GoodIn wsX4_slideWindow (wsV RX4 117 RX1 yX1_learn wsX1_learn) := goodIn_app (goodIn_m _ [(wsX4_slideWindow_r1, [false, false, false, false, true, true, true, true])] (gm_c mi_wsX4_slideWindow_wsX4_slideWindow_r1 gm_n) rfl (by decide +kernel)) ggX4_slideWindow_X1_learn
theorem mi_wsX4_slideWindow_wsX4_slideWindow_r2 : ∀ w ∈ wsX4_slideWindow_r2, w ∈ wsX4_slideWindow := fun _ h => (List.mem_cons_of_mem _ (List.mem_append_left _ (List.mem_append_left _ (List.mem_append_left _ (List.mem_append_right _ h)))))
set_option maxRecDepth 20000 in
theorem ggX4_slideWindow_X1_clear : GoodIn wsX4_slideWindow wsX1_clear := goodIn_m _ [(wsX4_slideWindow_r1, [false, false, false, false, false, false, false, false, false, false, false, false, false, false, false, false, false, false, false, false, true, true, true, true]), (wsX4_slideWindow_r2, [true, true, true, true]), (wsX10, [true, true, true, true])] (gm_c mi_wsX4_slideWindow_wsX4_slideWindow_r1 (gm_c mi_wsX4_slideWindow_wsX4_slideWindow_r2 (gm_c mi_wsX4_slideWindow_wsX10 gm_n))) rfl (by decide +kernel)
set_option maxRecDepth 20000 in
theorem gX4_slideWindow_X1_clear : GoodIn wsX4_slideWindow (wsV RX4 221 RX1 yX1_clear wsX1_clear) := goodIn_app (goodIn_m _ [(wsX4_slideWindow_r1, [false, false, false, false, false, false, false, false, false, false, false, false, false, false, false, false, false, true, true, true]), (wsX4_slideWindow_r1, [false, false, false, false, false, false, false, true])] (gm_c mi_wsX4_slideWindow_wsX4_slideWindow_r1 (gm_c mi_wsX4_slideWindow_wsX4_slideWindow_r1 gm_n)) rfl (by decide +kernel)) ggX4_slideWindow_X1_clear
set_option maxRecDepth 20000 in
theorem ggX4_slideWindow_J7_fill_53178 : GoodIn wsX4_slideWindow wsJ7_fill_53178 := goodIn_m _ [(wsX4_slideWindow_r2, [false, false, false, true])] (gm_c mi_wsX4_slideWindow_wsX4_slideWindow_r2 gm_n) rfl (by decide +kernel)
set_option maxRecDepth 20000 in
theorem gX4_slideWindow_J7_fill_53178 : GoodIn wsX4_slideWindow (va_wsS RX4 231 yJ7_fill_53178 wsJ7_fill_53178) := goodIn_app (goodIn_m _ [(wsX4_slideWindow_r2, [false, false, false, false, true]), (wsX4_slideWindow_r2, [false, true, true])] (gm_c mi_wsX4_slideWindow_wsX4_slideWindow_r2 (gm_c mi_wsX4_slideWindow_wsX4_slideWindow_r2 gm_n)) rfl (by decide +kernel)) ggX4_slideWindow_J7_fill_53178
set_option maxRecDepth 20000 in
theorem ggX4_slideWindow_X1_take : GoodIn wsX4_slideWindow wsX1_take := goodIn_m _ [(wsX4_slideWindow_r2, [false, false, false, false, false, false, false, false, true]), (wsX4_slideWindow_r1, [false, false, false, false, false, false, false, false, false, false, false, false, false, false, false, false, false, false, false, false, false, true]), (wsX4_slideWindow_r1, [false, false, false, false, false, false, false, false, false, false, true, false, false, false, false, false, false, false, false, false, false, false, true, true]), (wsX10, [true, true, true, true])] (gm_c mi_wsX4_slideWindow_wsX4_slideWindow_r2 (gm_c mi_wsX4_slideWindow_wsX4_slideWindow_r1 (gm_c mi_wsX4_slideWindow_wsX4_slideWindow_r1 (gm_c mi_wsX4_slideWindow_wsX10 gm_n)))) rfl (by decide +kernel)
set_option maxRecDepth 20000 in
theorem gX4_slideWindow_X1_take : GoodIn wsX4_slideWindow (wsV RX4 224 RX1 yX1_take wsX1_take) := goodIn_app (goodIn_m _ [(wsX4_slideWindow_r2, [false, false, false, false, false, true, true, true]), (wsX4_slideWindow_r1, [false, false, false, false, false, false, false, true])] (gm_c mi_wsX4_slideWindow_wsX4_slideWindow_r2 (gm_c mi_wsX4_slideWindow_wsX4_slideWindow_r1 gm_n)) rfl (by decide +kernel)) ggX4_slideWindow_X1_take
set_option maxRecDepth 20000 in
theorem ggX4_slideWindow_X1_drop : GoodIn wsX4_slideWindow wsX1_drop := goodIn_m _ [(wsX4_slideWindow_r2, [false, false, false, false, false, false, false, false, false, false, false, false, true]), (wsX4_slideWindow_r1, [false, false, false, false, false, false, false, false, false, false, false, false, false, false, false, false, false, false, false, false, false, true]), (wsX4_slideWindow_r1, [false, false, false, false, false, false, false, false, false, false, true, false, false, false, false, false, false, false, false, false, false, false, true]), (wsX10, [true, true, true, true])] (gm_c mi_wsX4_slideWindow_wsX4_slideWindow_r2 (gm_c mi_wsX4_slideWindow_wsX4_slideWindow_r1 (gm_c mi_wsX4_slideWindow_wsX4_slideWindow_r1 (gm_c mi_wsX4_slideWindow_wsX10 gm_n)))) rfl (by decide +kernel)
set_option maxRecDepth 20000 in
theorem gX4_slideWindow_X1_drop : GoodIn wsX4_slideWindow (wsV RX4 277 RX1 yX1_drop wsX1_drop) := goodIn_app (goodIn_m _ [(wsX4_slideWindow_r2, [false, false, false, false, false, false, false, false, false, true, true, true]), (wsX4_slideWindow_r1, [false, false, false, false, false, false, false, true])] (gm_c mi_wsX4_slideWindow_wsX4_slideWindow_r2 (gm_c mi_wsX4_slideWindow_wsX4_slideWindow_r1 gm_n)) rfl (by decide +kernel)) ggX4_slideWindow_X1_drop
theorem mi_wsX4_slideWindow_wsX40 : ∀ w ∈ wsX40, w ∈ wsX4_slideWindow := fun _ h => (List.mem_cons_of_mem _ (List.mem_append_left _ (List.mem_append_left _ (List.mem_append_right _ h))))
set_option maxRecDepth 20000 in
theorem ggX4_slideWindow_X4_creditHeavy : GoodIn wsX4_slideWindow wsX4_creditHeavy := goodIn_m _ [(wsX4_slideWindow_r2, [false, false, false, false, false, false, false, false, false, false, false, false, false, false, false, false, false, true]), (wsX4_slideWindow_r1, [false, true, false, true]), (wsX4_slideWindow_r1, [true]), (wsX4_slideWindow_r2, [false, false, false, false, false, false, false, false, false, false, false, false, false, false, false, false, false, false, true]), (wsX4_slideWindow_r1, [false, false, true]), (wsX4_slideWindow_r2, [false, false, false, false, false, false, false, false, false, false, false, false, false, false, false, false, false, false, false, true, true]), (wsX4_slideWindow_r2, [false, false, false, false, false, false, false, false, false, false, false, false, false, false, false, false, true, false, false, false, false, true]), (wsX40, [true, true, true, true, true, true, true, true, true]), (wsX00, [true, true]), (wsX10, [true, true, true, true])] (gm_c mi_wsX4_slideWindow_wsX4_slideWindow_r2 (gm_c mi_wsX4_slideWindow_wsX4_slideWindow_r1 (gm_c mi_wsX4_slideWindow_wsX4_slideWindow_r1 (gm_c mi_wsX4_slideWindow_wsX4_slideWindow_r2 (gm_c mi_wsX4_slideWindow_wsX4_slideWindow_r1 (gm_c mi_wsX4_slideWindow_wsX4_slideWindow_r2 (gm_c mi_wsX4_slideWindow_wsX4_slideWindow_r2 (gm_c mi_wsX4_slideWindow_wsX40 (gm_c mi_wsX4_slideWindow_wsX00 (gm_c mi_wsX4_slideWindow_wsX10 gm_n)))))))))) rfl (by decide +kernel)
set_option maxRecDepth 20000 in
theorem gX4_slideWindow_X4_creditHeavy : GoodIn wsX4_slideWindow (wsV RX4 280 RX4 yX4_creditHeavy wsX4_creditHeavy) := goodIn_app (goodIn_m _ [(wsX4_slideWindow_r2, [false, false, false, false, false, false, false, false, false, false, false, false, false, true, true, true, true])] (gm_c mi_wsX4_slideWindow_wsX4_slideWindow_r2 gm_n) rfl (by decide +kernel)) ggX4_slideWindow_X4_creditHeavy
def dt_cX4_slideWindow_0 : List (Nat × Nat × Nat × Nat) := [(0, 42, 0, 0), (1, 180, 2, 28), (4, 42, 0, 0), (5, 180, 2, 12), (8, 182, 2, 117), (11, 42, 0, 0), (12, 180, 2, 28), (15, 182, 2, 221), (18, 42, 0, 0), (19, 180, 2, 42), (22, 3, 0, 0), (23, 184, 2, 231), (26, 3, 0, 0), (27, 54, 1, 4), (29, 3, 0, 0), (30, 54, 1, 5), (32, 21, 1, 5), (34, 42, 0, 0), (35, 180, 2, 12), (38, 180, 2, 57)]
theorem da_cX4_slideWindow_0 : fw dt_cX4_slideWindow_0 0 cX4_slideWindow.data.toList = true := by decide +kernel
theorem dX4_slideWindow_0 : decode cX4_slideWindow 0 = .ok (.aload_n 0, 1) := fo_42 (fw_get da_cX4_slideWindow_0 0 rfl)
theorem dX4_slideWindow_1 : decode cX4_slideWindow 1 = .ok (.getfield 28, 3) := fo_180 (fw_get da_cX4_slideWindow_0 1 rfl)
theorem dX4_slideWindow_4 : decode cX4_slideWindow 4 = .ok (.aload_n 0, 1) := fo_42 (fw_get da_cX4_slideWindow_0 2 rfl)
theorem dX4_slideWindow_5 : decode cX4_slideWindow 5 = .ok (.getfield 12, 3) := fo_180 (fw_get da_cX4_slideWindow_0 3 rfl)
theorem dX4_slideWindow_8 : decode cX4_slideWindow 8 = .ok (.invokevirtual 117, 3) := fo_182 (fw_get da_cX4_slideWindow_0 4 rfl)
theorem dX4_slideWindow_11 : decode cX4_slideWindow 11 = .ok (.aload_n 0, 1) := fo_42 (fw_get da_cX4_slideWindow_0 5 rfl)
theorem dX4_slideWindow_12 : decode cX4_slideWindow 12 = .ok (.getfield 28, 3) := fo_180 (fw_get da_cX4_slideWindow_0 6 rfl)
theorem dX4_slideWindow_15 : decode cX4_slideWindow 15 = .ok (.invokevirtual 221, 3) := fo_182 (fw_get da_cX4_slideWindow_0 7 rfl)
theorem dX4_slideWindow_18 : decode cX4_slideWindow 18 = .ok (.aload_n 0, 1) := fo_42 (fw_get da_cX4_slideWindow_0 8 rfl)
theorem dX4_slideWindow_19 : decode cX4_slideWindow 19 = .ok (.getfield 42, 3) := fo_180 (fw_get da_cX4_slideWindow_0 9 rfl)
theorem dX4_slideWindow_22 : decode cX4_slideWindow 22 = .ok (.iconst 0, 1) := fo_3 (fw_get da_cX4_slideWindow_0 10 rfl)
theorem dX4_slideWindow_23 : decode cX4_slideWindow 23 = .ok (.invokestatic 231, 3) := fo_184 (fw_get da_cX4_slideWindow_0 11 rfl)
theorem dX4_slideWindow_26 : decode cX4_slideWindow 26 = .ok (.iconst 0, 1) := fo_3 (fw_get da_cX4_slideWindow_0 12 rfl)
theorem dX4_slideWindow_27 : decode cX4_slideWindow 27 = .ok (.istore 4, 2) := fo_54 (fw_get da_cX4_slideWindow_0 13 rfl)
theorem dX4_slideWindow_29 : decode cX4_slideWindow 29 = .ok (.iconst 0, 1) := fo_3 (fw_get da_cX4_slideWindow_0 14 rfl)
theorem dX4_slideWindow_30 : decode cX4_slideWindow 30 = .ok (.istore 5, 2) := fo_54 (fw_get da_cX4_slideWindow_0 15 rfl)
theorem dX4_slideWindow_32 : decode cX4_slideWindow 32 = .ok (.iload 5, 2) := fo_21 (fw_get da_cX4_slideWindow_0 16 rfl)
theorem dX4_slideWindow_34 : decode cX4_slideWindow 34 = .ok (.aload_n 0, 1) := fo_42 (fw_get da_cX4_slideWindow_0 17 rfl)
theorem dX4_slideWindow_35 : decode cX4_slideWindow 35 = .ok (.getfield 12, 3) := fo_180 (fw_get da_cX4_slideWindow_0 18 rfl)
theorem dX4_slideWindow_38 : decode cX4_slideWindow 38 = .ok (.getfield 57, 3) := fo_180 (fw_get da_cX4_slideWindow_0 19 rfl)
def dt_cX4_slideWindow_1 : List (Nat × Nat × Nat × Nat) := [(41, 162, 2, 56), (44, 42, 0, 0), (45, 180, 2, 28), (48, 21, 1, 5), (50, 182, 2, 224), (53, 21, 1, 5), (55, 27, 0, 0), (56, 161, 2, 14), (59, 42, 0, 0), (60, 180, 2, 28), (63, 21, 1, 5), (65, 27, 0, 0), (66, 100, 0, 0), (67, 182, 2, 277), (70, 21, 1, 5), (72, 27, 0, 0), (73, 4, 0, 0), (74, 100, 0, 0), (75, 161, 2, 16), (78, 42, 0, 0)]
theorem da_cX4_slideWindow_1 : fw dt_cX4_slideWindow_1 0 cX4_slideWindow.data.toList = true := by decide +kernel
theorem dX4_slideWindow_41 : decode cX4_slideWindow 41 = .ok (.if_icmp .ge 56, 3) := fo_162 (fw_get da_cX4_slideWindow_1 0 rfl) (by decide +kernel)
theorem dX4_slideWindow_44 : decode cX4_slideWindow 44 = .ok (.aload_n 0, 1) := fo_42 (fw_get da_cX4_slideWindow_1 1 rfl)
theorem dX4_slideWindow_45 : decode cX4_slideWindow 45 = .ok (.getfield 28, 3) := fo_180 (fw_get da_cX4_slideWindow_1 2 rfl)
theorem dX4_slideWindow_48 : decode cX4_slideWindow 48 = .ok (.iload 5, 2) := fo_21 (fw_get da_cX4_slideWindow_1 3 rfl)
theorem dX4_slideWindow_50 : decode cX4_slideWindow 50 = .ok (.invokevirtual 224, 3) := fo_182 (fw_get da_cX4_slideWindow_1 4 rfl)
theorem dX4_slideWindow_53 : decode cX4_slideWindow 53 = .ok (.iload 5, 2) := fo_21 (fw_get da_cX4_slideWindow_1 5 rfl)
theorem dX4_slideWindow_55 : decode cX4_slideWindow 55 = .ok (.iload_n 1, 1) := fo_27 (fw_get da_cX4_slideWindow_1 6 rfl)
theorem dX4_slideWindow_56 : decode cX4_slideWindow 56 = .ok (.if_icmp .lt 14, 3) := fo_161 (fw_get da_cX4_slideWindow_1 7 rfl) (by decide +kernel)
theorem dX4_slideWindow_59 : decode cX4_slideWindow 59 = .ok (.aload_n 0, 1) := fo_42 (fw_get da_cX4_slideWindow_1 8 rfl)
theorem dX4_slideWindow_60 : decode cX4_slideWindow 60 = .ok (.getfield 28, 3) := fo_180 (fw_get da_cX4_slideWindow_1 9 rfl)
theorem dX4_slideWindow_63 : decode cX4_slideWindow 63 = .ok (.iload 5, 2) := fo_21 (fw_get da_cX4_slideWindow_1 10 rfl)
theorem dX4_slideWindow_65 : decode cX4_slideWindow 65 = .ok (.iload_n 1, 1) := fo_27 (fw_get da_cX4_slideWindow_1 11 rfl)
theorem dX4_slideWindow_66 : decode cX4_slideWindow 66 = .ok (.isub, 1) := fo_100 (fw_get da_cX4_slideWindow_1 12 rfl)
theorem dX4_slideWindow_67 : decode cX4_slideWindow 67 = .ok (.invokevirtual 277, 3) := fo_182 (fw_get da_cX4_slideWindow_1 13 rfl)
theorem dX4_slideWindow_70 : decode cX4_slideWindow 70 = .ok (.iload 5, 2) := fo_21 (fw_get da_cX4_slideWindow_1 14 rfl)
theorem dX4_slideWindow_72 : decode cX4_slideWindow 72 = .ok (.iload_n 1, 1) := fo_27 (fw_get da_cX4_slideWindow_1 15 rfl)
theorem dX4_slideWindow_73 : decode cX4_slideWindow 73 = .ok (.iconst 1, 1) := fo_4 (fw_get da_cX4_slideWindow_1 16 rfl)
theorem dX4_slideWindow_74 : decode cX4_slideWindow 74 = .ok (.isub, 1) := fo_100 (fw_get da_cX4_slideWindow_1 17 rfl)
theorem dX4_slideWindow_75 : decode cX4_slideWindow 75 = .ok (.if_icmp .lt 16, 3) := fo_161 (fw_get da_cX4_slideWindow_1 18 rfl) (by decide +kernel)
theorem dX4_slideWindow_78 : decode cX4_slideWindow 78 = .ok (.aload_n 0, 1) := fo_42 (fw_get da_cX4_slideWindow_1 19 rfl)
def dt_cX4_slideWindow_2 : List (Nat × Nat × Nat × Nat) := [(79, 27, 0, 0), (80, 28, 0, 0), (81, 29, 0, 0), (82, 182, 2, 280), (85, 153, 2, 6), (88, 132, 2, 1025), (91, 132, 2, 1281), (94, 167, 2, 65474), (97, 21, 1, 4), (99, 172, 0, 0)]
theorem da_cX4_slideWindow_2 : fw dt_cX4_slideWindow_2 0 cX4_slideWindow.data.toList = true := by decide +kernel
theorem dX4_slideWindow_79 : decode cX4_slideWindow 79 = .ok (.iload_n 1, 1) := fo_27 (fw_get da_cX4_slideWindow_2 0 rfl)
theorem dX4_slideWindow_80 : decode cX4_slideWindow 80 = .ok (.iload_n 2, 1) := fo_28 (fw_get da_cX4_slideWindow_2 1 rfl)
theorem dX4_slideWindow_81 : decode cX4_slideWindow 81 = .ok (.iload_n 3, 1) := fo_29 (fw_get da_cX4_slideWindow_2 2 rfl)
theorem dX4_slideWindow_82 : decode cX4_slideWindow 82 = .ok (.invokevirtual 280, 3) := fo_182 (fw_get da_cX4_slideWindow_2 3 rfl)
theorem dX4_slideWindow_85 : decode cX4_slideWindow 85 = .ok (.ifCond .eq 6, 3) := fo_153 (fw_get da_cX4_slideWindow_2 4 rfl) (by decide +kernel)
theorem dX4_slideWindow_88 : decode cX4_slideWindow 88 = .ok (.iinc 4 1, 3) := fo_132 (fw_get da_cX4_slideWindow_2 5 rfl) rfl (by decide +kernel)
theorem dX4_slideWindow_91 : decode cX4_slideWindow 91 = .ok (.iinc 5 1, 3) := fo_132 (fw_get da_cX4_slideWindow_2 6 rfl) rfl (by decide +kernel)
theorem dX4_slideWindow_94 : decode cX4_slideWindow 94 = .ok (.goto (-62), 3) := fo_167 (fw_get da_cX4_slideWindow_2 7 rfl) (by decide +kernel)
theorem dX4_slideWindow_97 : decode cX4_slideWindow 97 = .ok (.iload 4, 2) := fo_21 (fw_get da_cX4_slideWindow_2 8 rfl)
theorem dX4_slideWindow_99 : decode cX4_slideWindow 99 = .ok (.ireturn, 1) := fo_172 (fw_get da_cX4_slideWindow_2 9 rfl)
set_option maxRecDepth 20000 in
theorem ggX4_creditHeavy_X4_isHeavy : GoodIn wsX4_creditHeavy wsX4_isHeavy := goodIn_r _ [9] rfl (by decide +kernel)
set_option maxRecDepth 20000 in
theorem gX4_creditHeavy_X4_isHeavy : GoodIn wsX4_creditHeavy (va_wsS RX4 273 yX4_isHeavy wsX4_isHeavy) := goodIn_app (goodIn_r _ [6, 7, 8] rfl (by decide +kernel)) ggX4_creditHeavy_X4_isHeavy
def dt_cX4_creditHeavy_0 : List (Nat × Nat × Nat × Nat) := [(0, 3, 0, 0), (1, 54, 1, 4), (3, 3, 0, 0), (4, 54, 1, 5), (6, 21, 1, 5), (8, 42, 0, 0), (9, 180, 2, 12), (12, 180, 2, 57), (15, 162, 2, 42), (18, 42, 0, 0), (19, 180, 2, 28), (22, 180, 2, 283), (25, 21, 1, 5), (27, 46, 0, 0), (28, 27, 0, 0), (29, 28, 0, 0), (30, 29, 0, 0), (31, 184, 2, 273), (34, 153, 2, 17), (37, 42, 0, 0)]
theorem da_cX4_creditHeavy_0 : fw dt_cX4_creditHeavy_0 0 cX4_creditHeavy.data.toList = true := by decide +kernel
theorem dX4_creditHeavy_0 : decode cX4_creditHeavy 0 = .ok (.iconst 0, 1) := fo_3 (fw_get da_cX4_creditHeavy_0 0 rfl)
theorem dX4_creditHeavy_1 : decode cX4_creditHeavy 1 = .ok (.istore 4, 2) := fo_54 (fw_get da_cX4_creditHeavy_0 1 rfl)
theorem dX4_creditHeavy_3 : decode cX4_creditHeavy 3 = .ok (.iconst 0, 1) := fo_3 (fw_get da_cX4_creditHeavy_0 2 rfl)
theorem dX4_creditHeavy_4 : decode cX4_creditHeavy 4 = .ok (.istore 5, 2) := fo_54 (fw_get da_cX4_creditHeavy_0 3 rfl)
theorem dX4_creditHeavy_6 : decode cX4_creditHeavy 6 = .ok (.iload 5, 2) := fo_21 (fw_get da_cX4_creditHeavy_0 4 rfl)
theorem dX4_creditHeavy_8 : decode cX4_creditHeavy 8 = .ok (.aload_n 0, 1) := fo_42 (fw_get da_cX4_creditHeavy_0 5 rfl)
theorem dX4_creditHeavy_9 : decode cX4_creditHeavy 9 = .ok (.getfield 12, 3) := fo_180 (fw_get da_cX4_creditHeavy_0 6 rfl)
theorem dX4_creditHeavy_12 : decode cX4_creditHeavy 12 = .ok (.getfield 57, 3) := fo_180 (fw_get da_cX4_creditHeavy_0 7 rfl)
theorem dX4_creditHeavy_15 : decode cX4_creditHeavy 15 = .ok (.if_icmp .ge 42, 3) := fo_162 (fw_get da_cX4_creditHeavy_0 8 rfl) (by decide +kernel)
theorem dX4_creditHeavy_18 : decode cX4_creditHeavy 18 = .ok (.aload_n 0, 1) := fo_42 (fw_get da_cX4_creditHeavy_0 9 rfl)
theorem dX4_creditHeavy_19 : decode cX4_creditHeavy 19 = .ok (.getfield 28, 3) := fo_180 (fw_get da_cX4_creditHeavy_0 10 rfl)
theorem dX4_creditHeavy_22 : decode cX4_creditHeavy 22 = .ok (.getfield 283, 3) := fo_180 (fw_get da_cX4_creditHeavy_0 11 rfl)
theorem dX4_creditHeavy_25 : decode cX4_creditHeavy 25 = .ok (.iload 5, 2) := fo_21 (fw_get da_cX4_creditHeavy_0 12 rfl)
theorem dX4_creditHeavy_27 : decode cX4_creditHeavy 27 = .ok (.iaload, 1) := fo_46 (fw_get da_cX4_creditHeavy_0 13 rfl)
theorem dX4_creditHeavy_28 : decode cX4_creditHeavy 28 = .ok (.iload_n 1, 1) := fo_27 (fw_get da_cX4_creditHeavy_0 14 rfl)
theorem dX4_creditHeavy_29 : decode cX4_creditHeavy 29 = .ok (.iload_n 2, 1) := fo_28 (fw_get da_cX4_creditHeavy_0 15 rfl)
theorem dX4_creditHeavy_30 : decode cX4_creditHeavy 30 = .ok (.iload_n 3, 1) := fo_29 (fw_get da_cX4_creditHeavy_0 16 rfl)
theorem dX4_creditHeavy_31 : decode cX4_creditHeavy 31 = .ok (.invokestatic 273, 3) := fo_184 (fw_get da_cX4_creditHeavy_0 17 rfl)
theorem dX4_creditHeavy_34 : decode cX4_creditHeavy 34 = .ok (.ifCond .eq 17, 3) := fo_153 (fw_get da_cX4_creditHeavy_0 18 rfl) (by decide +kernel)
theorem dX4_creditHeavy_37 : decode cX4_creditHeavy 37 = .ok (.aload_n 0, 1) := fo_42 (fw_get da_cX4_creditHeavy_0 19 rfl)
def dt_cX4_creditHeavy_1 : List (Nat × Nat × Nat × Nat) := [(38, 180, 2, 42), (41, 21, 1, 5), (43, 92, 0, 0), (44, 46, 0, 0), (45, 4, 0, 0), (46, 96, 0, 0), (47, 79, 0, 0), (48, 4, 0, 0), (49, 54, 1, 4), (51, 132, 2, 1281), (54, 167, 2, 65488), (57, 21, 1, 4), (59, 172, 0, 0)]
theorem da_cX4_creditHeavy_1 : fw dt_cX4_creditHeavy_1 0 cX4_creditHeavy.data.toList = true := by decide +kernel
theorem dX4_creditHeavy_38 : decode cX4_creditHeavy 38 = .ok (.getfield 42, 3) := fo_180 (fw_get da_cX4_creditHeavy_1 0 rfl)
theorem dX4_creditHeavy_41 : decode cX4_creditHeavy 41 = .ok (.iload 5, 2) := fo_21 (fw_get da_cX4_creditHeavy_1 1 rfl)
theorem dX4_creditHeavy_43 : decode cX4_creditHeavy 43 = .ok (.dup2, 1) := fo_92 (fw_get da_cX4_creditHeavy_1 2 rfl)
theorem dX4_creditHeavy_44 : decode cX4_creditHeavy 44 = .ok (.iaload, 1) := fo_46 (fw_get da_cX4_creditHeavy_1 3 rfl)
theorem dX4_creditHeavy_45 : decode cX4_creditHeavy 45 = .ok (.iconst 1, 1) := fo_4 (fw_get da_cX4_creditHeavy_1 4 rfl)
theorem dX4_creditHeavy_46 : decode cX4_creditHeavy 46 = .ok (.iadd, 1) := fo_96 (fw_get da_cX4_creditHeavy_1 5 rfl)
theorem dX4_creditHeavy_47 : decode cX4_creditHeavy 47 = .ok (.iastore, 1) := fo_79 (fw_get da_cX4_creditHeavy_1 6 rfl)
theorem dX4_creditHeavy_48 : decode cX4_creditHeavy 48 = .ok (.iconst 1, 1) := fo_4 (fw_get da_cX4_creditHeavy_1 7 rfl)
theorem dX4_creditHeavy_49 : decode cX4_creditHeavy 49 = .ok (.istore 4, 2) := fo_54 (fw_get da_cX4_creditHeavy_1 8 rfl)
theorem dX4_creditHeavy_51 : decode cX4_creditHeavy 51 = .ok (.iinc 5 1, 3) := fo_132 (fw_get da_cX4_creditHeavy_1 9 rfl) rfl (by decide +kernel)
theorem dX4_creditHeavy_54 : decode cX4_creditHeavy 54 = .ok (.goto (-48), 3) := fo_167 (fw_get da_cX4_creditHeavy_1 10 rfl) (by decide +kernel)
theorem dX4_creditHeavy_57 : decode cX4_creditHeavy 57 = .ok (.iload 4, 2) := fo_21 (fw_get da_cX4_creditHeavy_1 11 rfl)
theorem dX4_creditHeavy_59 : decode cX4_creditHeavy 59 = .ok (.ireturn, 1) := fo_172 (fw_get da_cX4_creditHeavy_1 12 rfl)
def dt_cX4_kindOfMostWins_0 : List (Nat × Nat × Nat × Nat) := [(0, 2, 0, 0), (1, 60, 0, 0), (2, 3, 0, 0), (3, 61, 0, 0), (4, 3, 0, 0), (5, 62, 0, 0), (6, 29, 0, 0), (7, 42, 0, 0), (8, 180, 2, 12), (11, 180, 2, 57), (14, 162, 2, 76), (17, 27, 0, 0), (18, 2, 0, 0), (19, 159, 2, 38), (22, 42, 0, 0), (23, 180, 2, 42), (26, 29, 0, 0), (27, 46, 0, 0), (28, 28, 0, 0), (29, 160, 2, 28)]
theorem da_cX4_kindOfMostWins_0 : fw dt_cX4_kindOfMostWins_0 0 cX4_kindOfMostWins.data.toList = true := by decide +kernel
theorem dX4_kindOfMostWins_0 : decode cX4_kindOfMostWins 0 = .ok (.iconst (-1), 1) := fo_2 (fw_get da_cX4_kindOfMostWins_0 0 rfl)
theorem dX4_kindOfMostWins_1 : decode cX4_kindOfMostWins 1 = .ok (.istore_n 1, 1) := fo_60 (fw_get da_cX4_kindOfMostWins_0 1 rfl)
theorem dX4_kindOfMostWins_2 : decode cX4_kindOfMostWins 2 = .ok (.iconst 0, 1) := fo_3 (fw_get da_cX4_kindOfMostWins_0 2 rfl)
theorem dX4_kindOfMostWins_3 : decode cX4_kindOfMostWins 3 = .ok (.istore_n 2, 1) := fo_61 (fw_get da_cX4_kindOfMostWins_0 3 rfl)
theorem dX4_kindOfMostWins_4 : decode cX4_kindOfMostWins 4 = .ok (.iconst 0, 1) := fo_3 (fw_get da_cX4_kindOfMostWins_0 4 rfl)
theorem dX4_kindOfMostWins_5 : decode cX4_kindOfMostWins 5 = .ok (.istore_n 3, 1) := fo_62 (fw_get da_cX4_kindOfMostWins_0 5 rfl)
theorem dX4_kindOfMostWins_6 : decode cX4_kindOfMostWins 6 = .ok (.iload_n 3, 1) := fo_29 (fw_get da_cX4_kindOfMostWins_0 6 rfl)
theorem dX4_kindOfMostWins_7 : decode cX4_kindOfMostWins 7 = .ok (.aload_n 0, 1) := fo_42 (fw_get da_cX4_kindOfMostWins_0 7 rfl)
theorem dX4_kindOfMostWins_8 : decode cX4_kindOfMostWins 8 = .ok (.getfield 12, 3) := fo_180 (fw_get da_cX4_kindOfMostWins_0 8 rfl)
theorem dX4_kindOfMostWins_11 : decode cX4_kindOfMostWins 11 = .ok (.getfield 57, 3) := fo_180 (fw_get da_cX4_kindOfMostWins_0 9 rfl)
theorem dX4_kindOfMostWins_14 : decode cX4_kindOfMostWins 14 = .ok (.if_icmp .ge 76, 3) := fo_162 (fw_get da_cX4_kindOfMostWins_0 10 rfl) (by decide +kernel)
theorem dX4_kindOfMostWins_17 : decode cX4_kindOfMostWins 17 = .ok (.iload_n 1, 1) := fo_27 (fw_get da_cX4_kindOfMostWins_0 11 rfl)
theorem dX4_kindOfMostWins_18 : decode cX4_kindOfMostWins 18 = .ok (.iconst (-1), 1) := fo_2 (fw_get da_cX4_kindOfMostWins_0 12 rfl)
theorem dX4_kindOfMostWins_19 : decode cX4_kindOfMostWins 19 = .ok (.if_icmp .eq 38, 3) := fo_159 (fw_get da_cX4_kindOfMostWins_0 13 rfl) (by decide +kernel)
theorem dX4_kindOfMostWins_22 : decode cX4_kindOfMostWins 22 = .ok (.aload_n 0, 1) := fo_42 (fw_get da_cX4_kindOfMostWins_0 14 rfl)
theorem dX4_kindOfMostWins_23 : decode cX4_kindOfMostWins 23 = .ok (.getfield 42, 3) := fo_180 (fw_get da_cX4_kindOfMostWins_0 15 rfl)
theorem dX4_kindOfMostWins_26 : decode cX4_kindOfMostWins 26 = .ok (.iload_n 3, 1) := fo_29 (fw_get da_cX4_kindOfMostWins_0 16 rfl)
theorem dX4_kindOfMostWins_27 : decode cX4_kindOfMostWins 27 = .ok (.iaload, 1) := fo_46 (fw_get da_cX4_kindOfMostWins_0 17 rfl)
theorem dX4_kindOfMostWins_28 : decode cX4_kindOfMostWins 28 = .ok (.iload_n 2, 1) := fo_28 (fw_get da_cX4_kindOfMostWins_0 18 rfl)
theorem dX4_kindOfMostWins_29 : decode cX4_kindOfMostWins 29 = .ok (.if_icmp .ne 28, 3) := fo_160 (fw_get da_cX4_kindOfMostWins_0 19 rfl) (by decide +kernel)
def dt_cX4_kindOfMostWins_1 : List (Nat × Nat × Nat × Nat) := [(32, 42, 0, 0), (33, 180, 2, 12), (36, 180, 2, 110), (39, 29, 0, 0), (40, 46, 0, 0), (41, 42, 0, 0), (42, 180, 2, 12), (45, 180, 2, 110), (48, 27, 0, 0), (49, 46, 0, 0), (50, 162, 2, 7), (53, 4, 0, 0), (54, 167, 2, 4), (57, 3, 0, 0), (58, 54, 1, 4), (60, 42, 0, 0), (61, 180, 2, 42), (64, 29, 0, 0), (65, 46, 0, 0), (66, 28, 0, 0)]
theorem da_cX4_kindOfMostWins_1 : fw dt_cX4_kindOfMostWins_1 0 cX4_kindOfMostWins.data.toList = true := by decide +kernel
theorem dX4_kindOfMostWins_32 : decode cX4_kindOfMostWins 32 = .ok (.aload_n 0, 1) := fo_42 (fw_get da_cX4_kindOfMostWins_1 0 rfl)
theorem dX4_kindOfMostWins_33 : decode cX4_kindOfMostWins 33 = .ok (.getfield 12, 3) := fo_180 (fw_get da_cX4_kindOfMostWins_1 1 rfl)
theorem dX4_kindOfMostWins_36 : decode cX4_kindOfMostWins 36 = .ok (.getfield 110, 3) := fo_180 (fw_get da_cX4_kindOfMostWins_1 2 rfl)
theorem dX4_kindOfMostWins_39 : decode cX4_kindOfMostWins 39 = .ok (.iload_n 3, 1) := fo_29 (fw_get da_cX4_kindOfMostWins_1 3 rfl)
theorem dX4_kindOfMostWins_40 : decode cX4_kindOfMostWins 40 = .ok (.iaload, 1) := fo_46 (fw_get da_cX4_kindOfMostWins_1 4 rfl)
theorem dX4_kindOfMostWins_41 : decode cX4_kindOfMostWins 41 = .ok (.aload_n 0, 1) := fo_42 (fw_get da_cX4_kindOfMostWins_1 5 rfl)
theorem dX4_kindOfMostWins_42 : decode cX4_kindOfMostWins 42 = .ok (.getfield 12, 3) := fo_180 (fw_get da_cX4_kindOfMostWins_1 6 rfl)
theorem dX4_kindOfMostWins_45 : decode cX4_kindOfMostWins 45 = .ok (.getfield 110, 3) := fo_180 (fw_get da_cX4_kindOfMostWins_1 7 rfl)
theorem dX4_kindOfMostWins_48 : decode cX4_kindOfMostWins 48 = .ok (.iload_n 1, 1) := fo_27 (fw_get da_cX4_kindOfMostWins_1 8 rfl)
theorem dX4_kindOfMostWins_49 : decode cX4_kindOfMostWins 49 = .ok (.iaload, 1) := fo_46 (fw_get da_cX4_kindOfMostWins_1 9 rfl)
theorem dX4_kindOfMostWins_50 : decode cX4_kindOfMostWins 50 = .ok (.if_icmp .ge 7, 3) := fo_162 (fw_get da_cX4_kindOfMostWins_1 10 rfl) (by decide +kernel)
theorem dX4_kindOfMostWins_53 : decode cX4_kindOfMostWins 53 = .ok (.iconst 1, 1) := fo_4 (fw_get da_cX4_kindOfMostWins_1 11 rfl)
theorem dX4_kindOfMostWins_54 : decode cX4_kindOfMostWins 54 = .ok (.goto 4, 3) := fo_167 (fw_get da_cX4_kindOfMostWins_1 12 rfl) (by decide +kernel)
theorem dX4_kindOfMostWins_57 : decode cX4_kindOfMostWins 57 = .ok (.iconst 0, 1) := fo_3 (fw_get da_cX4_kindOfMostWins_1 13 rfl)
theorem dX4_kindOfMostWins_58 : decode cX4_kindOfMostWins 58 = .ok (.istore 4, 2) := fo_54 (fw_get da_cX4_kindOfMostWins_1 14 rfl)
theorem dX4_kindOfMostWins_60 : decode cX4_kindOfMostWins 60 = .ok (.aload_n 0, 1) := fo_42 (fw_get da_cX4_kindOfMostWins_1 15 rfl)
theorem dX4_kindOfMostWins_61 : decode cX4_kindOfMostWins 61 = .ok (.getfield 42, 3) := fo_180 (fw_get da_cX4_kindOfMostWins_1 16 rfl)
theorem dX4_kindOfMostWins_64 : decode cX4_kindOfMostWins 64 = .ok (.iload_n 3, 1) := fo_29 (fw_get da_cX4_kindOfMostWins_1 17 rfl)
theorem dX4_kindOfMostWins_65 : decode cX4_kindOfMostWins 65 = .ok (.iaload, 1) := fo_46 (fw_get da_cX4_kindOfMostWins_1 18 rfl)
theorem dX4_kindOfMostWins_66 : decode cX4_kindOfMostWins 66 = .ok (.iload_n 2, 1) := fo_28 (fw_get da_cX4_kindOfMostWins_1 19 rfl)
def dt_cX4_kindOfMostWins_2 : List (Nat × Nat × Nat × Nat) := [(67, 163, 2, 8), (70, 21, 1, 4), (72, 153, 2, 12), (75, 29, 0, 0), (76, 60, 0, 0), (77, 42, 0, 0), (78, 180, 2, 42), (81, 29, 0, 0), (82, 46, 0, 0), (83, 61, 0, 0), (84, 132, 2, 769), (87, 167, 2, 65455), (90, 27, 0, 0), (91, 172, 0, 0)]
theorem da_cX4_kindOfMostWins_2 : fw dt_cX4_kindOfMostWins_2 0 cX4_kindOfMostWins.data.toList = true := by decide +kernel
theorem dX4_kindOfMostWins_67 : decode cX4_kindOfMostWins 67 = .ok (.if_icmp .gt 8, 3) := fo_163 (fw_get da_cX4_kindOfMostWins_2 0 rfl) (by decide +kernel)
theorem dX4_kindOfMostWins_70 : decode cX4_kindOfMostWins 70 = .ok (.iload 4, 2) := fo_21 (fw_get da_cX4_kindOfMostWins_2 1 rfl)
theorem dX4_kindOfMostWins_72 : decode cX4_kindOfMostWins 72 = .ok (.ifCond .eq 12, 3) := fo_153 (fw_get da_cX4_kindOfMostWins_2 2 rfl) (by decide +kernel)
theorem dX4_kindOfMostWins_75 : decode cX4_kindOfMostWins 75 = .ok (.iload_n 3, 1) := fo_29 (fw_get da_cX4_kindOfMostWins_2 3 rfl)
theorem dX4_kindOfMostWins_76 : decode cX4_kindOfMostWins 76 = .ok (.istore_n 1, 1) := fo_60 (fw_get da_cX4_kindOfMostWins_2 4 rfl)
theorem dX4_kindOfMostWins_77 : decode cX4_kindOfMostWins 77 = .ok (.aload_n 0, 1) := fo_42 (fw_get da_cX4_kindOfMostWins_2 5 rfl)
theorem dX4_kindOfMostWins_78 : decode cX4_kindOfMostWins 78 = .ok (.getfield 42, 3) := fo_180 (fw_get da_cX4_kindOfMostWins_2 6 rfl)
theorem dX4_kindOfMostWins_81 : decode cX4_kindOfMostWins 81 = .ok (.iload_n 3, 1) := fo_29 (fw_get da_cX4_kindOfMostWins_2 7 rfl)
theorem dX4_kindOfMostWins_82 : decode cX4_kindOfMostWins 82 = .ok (.iaload, 1) := fo_46 (fw_get da_cX4_kindOfMostWins_2 8 rfl)
theorem dX4_kindOfMostWins_83 : decode cX4_kindOfMostWins 83 = .ok (.istore_n 2, 1) := fo_61 (fw_get da_cX4_kindOfMostWins_2 9 rfl)
theorem dX4_kindOfMostWins_84 : decode cX4_kindOfMostWins 84 = .ok (.iinc 3 1, 3) := fo_132 (fw_get da_cX4_kindOfMostWins_2 10 rfl) rfl (by decide +kernel)
theorem dX4_kindOfMostWins_87 : decode cX4_kindOfMostWins 87 = .ok (.goto (-81), 3) := fo_167 (fw_get da_cX4_kindOfMostWins_2 11 rfl) (by decide +kernel)
theorem dX4_kindOfMostWins_90 : decode cX4_kindOfMostWins 90 = .ok (.iload_n 1, 1) := fo_27 (fw_get da_cX4_kindOfMostWins_2 12 rfl)
theorem dX4_kindOfMostWins_91 : decode cX4_kindOfMostWins 91 = .ok (.ireturn, 1) := fo_172 (fw_get da_cX4_kindOfMostWins_2 13 rfl)

