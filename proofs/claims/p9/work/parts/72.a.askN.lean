abbrev cX4_node : ByteArray := prog_1_method_15_code
def yX4_node : MethodName := ⟨RX4, "node", "(II)I"⟩
abbrev cX4_loss : ByteArray := prog_1_method_17_code
def yX4_loss : MethodName := ⟨RX4, "loss", "(II)I"⟩
abbrev cX4_cancelled : ByteArray := prog_1_method_18_code
def yX4_cancelled : MethodName := ⟨RX4, "cancelled", "(II)I"⟩
abbrev cX4_above : ByteArray := prog_1_method_19_code
def yX4_above : MethodName := ⟨RX4, "above", "(III)I"⟩
abbrev cX4_holds : ByteArray := prog_1_method_20_code
def yX4_holds : MethodName := ⟨RX4, "holds", "(I)I"⟩
abbrev cX4_parts : ByteArray := prog_1_method_21_code
def yX4_parts : MethodName := ⟨RX4, "parts", "(II)I"⟩
abbrev cX4_part : ByteArray := prog_1_method_22_code
def yX4_part : MethodName := ⟨RX4, "part", "(IIII)I"⟩
abbrev cX4_summary : ByteArray := prog_1_method_23_code
def yX4_summary : MethodName := ⟨RX4, "summary", "(III)I"⟩
abbrev cX4_lost : ByteArray := prog_1_method_25_code
def yX4_lost : MethodName := ⟨RX4, "lost", "(III)I"⟩
abbrev cX4_surely : ByteArray := prog_1_method_26_code
def yX4_surely : MethodName := ⟨RX4, "surely", "(II)I"⟩
abbrev cX4_heavy : ByteArray := prog_1_method_27_code
def yX4_heavy : MethodName := ⟨RX4, "heavy", "(IIII)I"⟩
abbrev cX4_failed : ByteArray := prog_1_method_29_code
def yX4_failed : MethodName := ⟨RX4, "failed", "(IIII)I"⟩
abbrev cX4_isEnough : ByteArray := prog_1_method_49_code
def yX4_isEnough : MethodName := ⟨RX4, "isEnough", "(II)Z"⟩
abbrev cX4_gatherHeavy : ByteArray := prog_1_method_53_code
def yX4_gatherHeavy : MethodName := ⟨RX4, "gatherHeavy", "(LMajorityIndex$Tree;IIII)V"⟩
def wsX4_node_r1 : List Cond := [Cond.fieldLink RX4 12 "MajorityIndex" "row" "LMajorityIndex$Row;", Cond.fieldLink RX4 126 "MajorityIndex$Tree" "size" "[I", Cond.methodLink RX4 79 yX0_hasRange, Cond.instanceMethod yX0_hasRange, Cond.selects RX0 yX0_hasRange yX0_hasRange, Cond.initialized RX0, Cond.code yX0_hasRange cX0_hasRange 3 (some .boolean), Cond.fieldLink RX0 15 "MajorityIndex$Row" "length" "I", Cond.methodLink RX4 71 yX4_laidTree, Cond.instanceMethod yX4_laidTree, Cond.selects RX4 yX4_laidTree yX4_laidTree, Cond.initialized RX4, Cond.code yX4_laidTree cX4_laidTree 1 (some (.object "MajorityIndex$Tree")), Cond.fieldLink RX4 53 "MajorityIndex" "treeIsOld" "Z", Cond.fieldLink RX4 21 "MajorityIndex" "tree" "LMajorityIndex$Tree;", Cond.fieldLink RX4 49 "MajorityIndex" "slotsNow" "I", Cond.fieldLink RX4 204 "MajorityIndex$Tree" "slotsHere" "I", Cond.fieldLink RX4 57 "MajorityIndex$Row" "length" "I", Cond.methodLink RX4 259 yX2_layRanges, Cond.instanceMethod yX2_layRanges, Cond.selects RX2 yX2_layRanges yX2_layRanges, Cond.initialized RX2, Cond.code yX2_layRanges cX2_layRanges 2 none, Cond.fieldLink RX2 40 "MajorityIndex$Tree" "row" "LMajorityIndex$Row;"]
def wsX4_node_r2 : List Cond := [Cond.fieldLink RX2 44 "MajorityIndex$Row" "length" "I", Cond.fieldLink RX2 50 "MajorityIndex$Tree" "nodes" "I", Cond.fieldLink RX2 18 "MajorityIndex$Tree" "from" "[I", Cond.fieldLink RX2 22 "MajorityIndex$Tree" "to" "[I", Cond.methodLink RX2 53 yX2_layBelow, Cond.instanceMethod yX2_layBelow, Cond.selects RX2 yX2_layBelow yX2_layBelow, Cond.code yX2_layBelow cX2_layBelow 4 none, Cond.methodLink RX2 57 yX2_rightBelow, Cond.instanceMethod yX2_rightBelow, Cond.selects RX2 yX2_rightBelow yX2_rightBelow, Cond.code yX2_rightBelow cX2_rightBelow 3 (some .int), Cond.methodLink RX4 87 yX2_renew, Cond.instanceMethod yX2_renew, Cond.selects RX2 yX2_renew yX2_renew, Cond.code yX2_renew cX2_renew 5 (some .int), Cond.methodLink RX2 61 yX2_putTogether, Cond.instanceMethod yX2_putTogether, Cond.selects RX2 yX2_putTogether yX2_putTogether, Cond.code yX2_putTogether cX2_putTogether 2 none, Cond.fieldLink RX2 12 "MajorityIndex$Tree" "joined" "LMajorityIndex$Votes;", Cond.fieldLink RX2 74 "MajorityIndex$Row" "cell" "[I", Cond.fieldLink RX2 85 "MajorityIndex$Tree" "slotsHere" "I", Cond.methodLink RX2 71 yX3_clear]
def wsX4_node_r3 : List Cond := [Cond.instanceMethod yX3_clear, Cond.selects RX3 yX3_clear yX3_clear, Cond.initialized RX3, Cond.code yX3_clear cX3_clear 1 none, Cond.fieldLink RX3 18 "MajorityIndex$Votes" "size" "I", Cond.fieldLink RX3 22 "MajorityIndex$Votes" "lost" "I", Cond.fieldLink RX3 25 "MajorityIndex$Votes" "lessBy" "I", Cond.methodLink RX2 77 yX3_add, Cond.instanceMethod yX3_add, Cond.selects RX3 yX3_add yX3_add, Cond.code yX3_add cX3_add 4 none, Cond.fieldLink RX3 9 "MajorityIndex$Votes" "value" "[I", Cond.fieldLink RX3 15 "MajorityIndex$Votes" "number" "[I", Cond.methodLink RX2 81 yX2_joinNode, Cond.instanceMethod yX2_joinNode, Cond.selects RX2 yX2_joinNode yX2_joinNode, Cond.code yX2_joinNode cX2_joinNode 5 none, Cond.fieldLink RX2 25 "MajorityIndex$Tree" "size" "[I", Cond.fieldLink RX2 34 "MajorityIndex$Tree" "value" "[I", Cond.fieldLink RX2 37 "MajorityIndex$Tree" "number" "[I", Cond.fieldLink RX2 91 "MajorityIndex$Votes" "lost" "I", Cond.fieldLink RX2 28 "MajorityIndex$Tree" "lossOf" "[I", Cond.methodLink RX2 88 yX3_cancel, Cond.instanceMethod yX3_cancel]
def wsX4_node_r4 : List Cond := [Cond.selects RX3 yX3_cancel yX3_cancel, Cond.code yX3_cancel cX3_cancel 4 none, Cond.methodLink RX3 32 yX3_order, Cond.instanceMethod yX3_order, Cond.selects RX3 yX3_order yX3_order, Cond.code yX3_order cX3_order 3 none, Cond.methodLink RX3 35 yX3_isAhead, Cond.instanceMethod yX3_isAhead, Cond.selects RX3 yX3_isAhead yX3_isAhead, Cond.code yX3_isAhead cX3_isAhead 3 (some .boolean), Cond.methodLink RX3 39 yX3_exchange, Cond.instanceMethod yX3_exchange, Cond.selects RX3 yX3_exchange yX3_exchange, Cond.code yX3_exchange cX3_exchange 5 none, Cond.methodLink RX2 64 yX2_isJoined, Cond.instanceMethod yX2_isJoined, Cond.selects RX2 yX2_isJoined yX2_isJoined, Cond.code yX2_isJoined cX2_isJoined 4 (some .boolean), Cond.fieldLink RX2 94 "MajorityIndex$Votes" "size" "I", Cond.fieldLink RX2 96 "MajorityIndex$Votes" "value" "[I", Cond.fieldLink RX2 97 "MajorityIndex$Votes" "number" "[I", Cond.methodLink RX2 68 yX2_keepJoined, Cond.instanceMethod yX2_keepJoined, Cond.selects RX2 yX2_keepJoined yX2_keepJoined]
def wsX4_node_r5 : List Cond := [Cond.code yX2_keepJoined cX2_keepJoined 4 none, Cond.methodLink RX2 98 Lib.Math.min.name, Cond.static Lib.Math.min.name, Cond.initialized "java/lang/Math", Cond.code Lib.Math.min.name Lib.Math.min.code 2 (some .int), Cond.fieldLink RX2 31 "MajorityIndex$Tree" "lessBy" "[I", Cond.fieldLink RX2 104 "MajorityIndex$Votes" "lessBy" "I", Cond.methodLink RX4 123 yX2_find, Cond.instanceMethod yX2_find, Cond.selects RX2 yX2_find yX2_find, Cond.code yX2_find cX2_find 4 (some .int)]
def wsX4_node : List Cond := .code yX4_node cX4_node 5 (some .int) :: ((wsX4_node_r1 ++ (wsX4_node_r2 ++ (wsX4_node_r3 ++ (wsX4_node_r4 ++ wsX4_node_r5)))) ++ wsX40 ++ wsX20 ++ wsX00 ++ wsX30)
def wsX4_loss_r1 : List Cond := [Cond.fieldLink RX4 12 "MajorityIndex" "row" "LMajorityIndex$Row;", Cond.fieldLink RX4 139 "MajorityIndex$Tree" "lossOf" "[I", Cond.methodLink RX4 79 yX0_hasRange, Cond.instanceMethod yX0_hasRange, Cond.selects RX0 yX0_hasRange yX0_hasRange, Cond.initialized RX0, Cond.code yX0_hasRange cX0_hasRange 3 (some .boolean), Cond.fieldLink RX0 15 "MajorityIndex$Row" "length" "I", Cond.methodLink RX4 71 yX4_laidTree, Cond.instanceMethod yX4_laidTree, Cond.selects RX4 yX4_laidTree yX4_laidTree, Cond.initialized RX4, Cond.code yX4_laidTree cX4_laidTree 1 (some (.object "MajorityIndex$Tree")), Cond.fieldLink RX4 53 "MajorityIndex" "treeIsOld" "Z", Cond.fieldLink RX4 21 "MajorityIndex" "tree" "LMajorityIndex$Tree;", Cond.fieldLink RX4 49 "MajorityIndex" "slotsNow" "I", Cond.fieldLink RX4 204 "MajorityIndex$Tree" "slotsHere" "I", Cond.fieldLink RX4 57 "MajorityIndex$Row" "length" "I", Cond.methodLink RX4 259 yX2_layRanges, Cond.instanceMethod yX2_layRanges, Cond.selects RX2 yX2_layRanges yX2_layRanges, Cond.initialized RX2, Cond.code yX2_layRanges cX2_layRanges 2 none, Cond.fieldLink RX2 40 "MajorityIndex$Tree" "row" "LMajorityIndex$Row;"]
def wsX4_loss_r2 : List Cond := [Cond.fieldLink RX2 44 "MajorityIndex$Row" "length" "I", Cond.fieldLink RX2 50 "MajorityIndex$Tree" "nodes" "I", Cond.fieldLink RX2 18 "MajorityIndex$Tree" "from" "[I", Cond.fieldLink RX2 22 "MajorityIndex$Tree" "to" "[I", Cond.methodLink RX2 53 yX2_layBelow, Cond.instanceMethod yX2_layBelow, Cond.selects RX2 yX2_layBelow yX2_layBelow, Cond.code yX2_layBelow cX2_layBelow 4 none, Cond.methodLink RX2 57 yX2_rightBelow, Cond.instanceMethod yX2_rightBelow, Cond.selects RX2 yX2_rightBelow yX2_rightBelow, Cond.code yX2_rightBelow cX2_rightBelow 3 (some .int), Cond.methodLink RX4 87 yX2_renew, Cond.instanceMethod yX2_renew, Cond.selects RX2 yX2_renew yX2_renew, Cond.code yX2_renew cX2_renew 5 (some .int), Cond.methodLink RX2 61 yX2_putTogether, Cond.instanceMethod yX2_putTogether, Cond.selects RX2 yX2_putTogether yX2_putTogether, Cond.code yX2_putTogether cX2_putTogether 2 none, Cond.fieldLink RX2 12 "MajorityIndex$Tree" "joined" "LMajorityIndex$Votes;", Cond.fieldLink RX2 74 "MajorityIndex$Row" "cell" "[I", Cond.fieldLink RX2 85 "MajorityIndex$Tree" "slotsHere" "I", Cond.methodLink RX2 71 yX3_clear]
def wsX4_loss_r3 : List Cond := [Cond.instanceMethod yX3_clear, Cond.selects RX3 yX3_clear yX3_clear, Cond.initialized RX3, Cond.code yX3_clear cX3_clear 1 none, Cond.fieldLink RX3 18 "MajorityIndex$Votes" "size" "I", Cond.fieldLink RX3 22 "MajorityIndex$Votes" "lost" "I", Cond.fieldLink RX3 25 "MajorityIndex$Votes" "lessBy" "I", Cond.methodLink RX2 77 yX3_add, Cond.instanceMethod yX3_add, Cond.selects RX3 yX3_add yX3_add, Cond.code yX3_add cX3_add 4 none, Cond.fieldLink RX3 9 "MajorityIndex$Votes" "value" "[I", Cond.fieldLink RX3 15 "MajorityIndex$Votes" "number" "[I", Cond.methodLink RX2 81 yX2_joinNode, Cond.instanceMethod yX2_joinNode, Cond.selects RX2 yX2_joinNode yX2_joinNode, Cond.code yX2_joinNode cX2_joinNode 5 none, Cond.fieldLink RX2 25 "MajorityIndex$Tree" "size" "[I", Cond.fieldLink RX2 34 "MajorityIndex$Tree" "value" "[I", Cond.fieldLink RX2 37 "MajorityIndex$Tree" "number" "[I", Cond.fieldLink RX2 91 "MajorityIndex$Votes" "lost" "I", Cond.fieldLink RX2 28 "MajorityIndex$Tree" "lossOf" "[I", Cond.methodLink RX2 88 yX3_cancel, Cond.instanceMethod yX3_cancel]
def wsX4_loss_r4 : List Cond := [Cond.selects RX3 yX3_cancel yX3_cancel, Cond.code yX3_cancel cX3_cancel 4 none, Cond.methodLink RX3 32 yX3_order, Cond.instanceMethod yX3_order, Cond.selects RX3 yX3_order yX3_order, Cond.code yX3_order cX3_order 3 none, Cond.methodLink RX3 35 yX3_isAhead, Cond.instanceMethod yX3_isAhead, Cond.selects RX3 yX3_isAhead yX3_isAhead, Cond.code yX3_isAhead cX3_isAhead 3 (some .boolean), Cond.methodLink RX3 39 yX3_exchange, Cond.instanceMethod yX3_exchange, Cond.selects RX3 yX3_exchange yX3_exchange, Cond.code yX3_exchange cX3_exchange 5 none, Cond.methodLink RX2 64 yX2_isJoined, Cond.instanceMethod yX2_isJoined, Cond.selects RX2 yX2_isJoined yX2_isJoined, Cond.code yX2_isJoined cX2_isJoined 4 (some .boolean), Cond.fieldLink RX2 94 "MajorityIndex$Votes" "size" "I", Cond.fieldLink RX2 96 "MajorityIndex$Votes" "value" "[I", Cond.fieldLink RX2 97 "MajorityIndex$Votes" "number" "[I", Cond.methodLink RX2 68 yX2_keepJoined, Cond.instanceMethod yX2_keepJoined, Cond.selects RX2 yX2_keepJoined yX2_keepJoined]
def wsX4_loss_r5 : List Cond := [Cond.code yX2_keepJoined cX2_keepJoined 4 none, Cond.methodLink RX2 98 Lib.Math.min.name, Cond.static Lib.Math.min.name, Cond.initialized "java/lang/Math", Cond.code Lib.Math.min.name Lib.Math.min.code 2 (some .int), Cond.fieldLink RX2 31 "MajorityIndex$Tree" "lessBy" "[I", Cond.fieldLink RX2 104 "MajorityIndex$Votes" "lessBy" "I", Cond.methodLink RX4 123 yX2_find, Cond.instanceMethod yX2_find, Cond.selects RX2 yX2_find yX2_find, Cond.code yX2_find cX2_find 4 (some .int)]
def wsX4_loss : List Cond := .code yX4_loss cX4_loss 5 (some .int) :: ((wsX4_loss_r1 ++ (wsX4_loss_r2 ++ (wsX4_loss_r3 ++ (wsX4_loss_r4 ++ wsX4_loss_r5)))) ++ wsX40 ++ wsX20 ++ wsX00 ++ wsX30)
def wsX4_cancelled_r1 : List Cond := [Cond.fieldLink RX4 12 "MajorityIndex" "row" "LMajorityIndex$Row;", Cond.fieldLink RX4 142 "MajorityIndex$Tree" "lessBy" "[I", Cond.methodLink RX4 79 yX0_hasRange, Cond.instanceMethod yX0_hasRange, Cond.selects RX0 yX0_hasRange yX0_hasRange, Cond.initialized RX0, Cond.code yX0_hasRange cX0_hasRange 3 (some .boolean), Cond.fieldLink RX0 15 "MajorityIndex$Row" "length" "I", Cond.methodLink RX4 71 yX4_laidTree, Cond.instanceMethod yX4_laidTree, Cond.selects RX4 yX4_laidTree yX4_laidTree, Cond.initialized RX4, Cond.code yX4_laidTree cX4_laidTree 1 (some (.object "MajorityIndex$Tree")), Cond.fieldLink RX4 53 "MajorityIndex" "treeIsOld" "Z", Cond.fieldLink RX4 21 "MajorityIndex" "tree" "LMajorityIndex$Tree;", Cond.fieldLink RX4 49 "MajorityIndex" "slotsNow" "I", Cond.fieldLink RX4 204 "MajorityIndex$Tree" "slotsHere" "I", Cond.fieldLink RX4 57 "MajorityIndex$Row" "length" "I", Cond.methodLink RX4 259 yX2_layRanges, Cond.instanceMethod yX2_layRanges, Cond.selects RX2 yX2_layRanges yX2_layRanges, Cond.initialized RX2, Cond.code yX2_layRanges cX2_layRanges 2 none, Cond.fieldLink RX2 40 "MajorityIndex$Tree" "row" "LMajorityIndex$Row;"]
def wsX4_cancelled_r2 : List Cond := [Cond.fieldLink RX2 44 "MajorityIndex$Row" "length" "I", Cond.fieldLink RX2 50 "MajorityIndex$Tree" "nodes" "I", Cond.fieldLink RX2 18 "MajorityIndex$Tree" "from" "[I", Cond.fieldLink RX2 22 "MajorityIndex$Tree" "to" "[I", Cond.methodLink RX2 53 yX2_layBelow, Cond.instanceMethod yX2_layBelow, Cond.selects RX2 yX2_layBelow yX2_layBelow, Cond.code yX2_layBelow cX2_layBelow 4 none, Cond.methodLink RX2 57 yX2_rightBelow, Cond.instanceMethod yX2_rightBelow, Cond.selects RX2 yX2_rightBelow yX2_rightBelow, Cond.code yX2_rightBelow cX2_rightBelow 3 (some .int), Cond.methodLink RX4 87 yX2_renew, Cond.instanceMethod yX2_renew, Cond.selects RX2 yX2_renew yX2_renew, Cond.code yX2_renew cX2_renew 5 (some .int), Cond.methodLink RX2 61 yX2_putTogether, Cond.instanceMethod yX2_putTogether, Cond.selects RX2 yX2_putTogether yX2_putTogether, Cond.code yX2_putTogether cX2_putTogether 2 none, Cond.fieldLink RX2 12 "MajorityIndex$Tree" "joined" "LMajorityIndex$Votes;", Cond.fieldLink RX2 74 "MajorityIndex$Row" "cell" "[I", Cond.fieldLink RX2 85 "MajorityIndex$Tree" "slotsHere" "I", Cond.methodLink RX2 71 yX3_clear]
def wsX4_cancelled_r3 : List Cond := [Cond.instanceMethod yX3_clear, Cond.selects RX3 yX3_clear yX3_clear, Cond.initialized RX3, Cond.code yX3_clear cX3_clear 1 none, Cond.fieldLink RX3 18 "MajorityIndex$Votes" "size" "I", Cond.fieldLink RX3 22 "MajorityIndex$Votes" "lost" "I", Cond.fieldLink RX3 25 "MajorityIndex$Votes" "lessBy" "I", Cond.methodLink RX2 77 yX3_add, Cond.instanceMethod yX3_add, Cond.selects RX3 yX3_add yX3_add, Cond.code yX3_add cX3_add 4 none, Cond.fieldLink RX3 9 "MajorityIndex$Votes" "value" "[I", Cond.fieldLink RX3 15 "MajorityIndex$Votes" "number" "[I", Cond.methodLink RX2 81 yX2_joinNode, Cond.instanceMethod yX2_joinNode, Cond.selects RX2 yX2_joinNode yX2_joinNode, Cond.code yX2_joinNode cX2_joinNode 5 none, Cond.fieldLink RX2 25 "MajorityIndex$Tree" "size" "[I", Cond.fieldLink RX2 34 "MajorityIndex$Tree" "value" "[I", Cond.fieldLink RX2 37 "MajorityIndex$Tree" "number" "[I", Cond.fieldLink RX2 91 "MajorityIndex$Votes" "lost" "I", Cond.fieldLink RX2 28 "MajorityIndex$Tree" "lossOf" "[I", Cond.methodLink RX2 88 yX3_cancel, Cond.instanceMethod yX3_cancel]
def wsX4_cancelled_r4 : List Cond := [Cond.selects RX3 yX3_cancel yX3_cancel, Cond.code yX3_cancel cX3_cancel 4 none, Cond.methodLink RX3 32 yX3_order, Cond.instanceMethod yX3_order, Cond.selects RX3 yX3_order yX3_order, Cond.code yX3_order cX3_order 3 none, Cond.methodLink RX3 35 yX3_isAhead, Cond.instanceMethod yX3_isAhead, Cond.selects RX3 yX3_isAhead yX3_isAhead, Cond.code yX3_isAhead cX3_isAhead 3 (some .boolean), Cond.methodLink RX3 39 yX3_exchange, Cond.instanceMethod yX3_exchange, Cond.selects RX3 yX3_exchange yX3_exchange, Cond.code yX3_exchange cX3_exchange 5 none, Cond.methodLink RX2 64 yX2_isJoined, Cond.instanceMethod yX2_isJoined, Cond.selects RX2 yX2_isJoined yX2_isJoined, Cond.code yX2_isJoined cX2_isJoined 4 (some .boolean), Cond.fieldLink RX2 94 "MajorityIndex$Votes" "size" "I", Cond.fieldLink RX2 96 "MajorityIndex$Votes" "value" "[I", Cond.fieldLink RX2 97 "MajorityIndex$Votes" "number" "[I", Cond.methodLink RX2 68 yX2_keepJoined, Cond.instanceMethod yX2_keepJoined, Cond.selects RX2 yX2_keepJoined yX2_keepJoined]
def wsX4_cancelled_r5 : List Cond := [Cond.code yX2_keepJoined cX2_keepJoined 4 none, Cond.methodLink RX2 98 Lib.Math.min.name, Cond.static Lib.Math.min.name, Cond.initialized "java/lang/Math", Cond.code Lib.Math.min.name Lib.Math.min.code 2 (some .int), Cond.fieldLink RX2 31 "MajorityIndex$Tree" "lessBy" "[I", Cond.fieldLink RX2 104 "MajorityIndex$Votes" "lessBy" "I", Cond.methodLink RX4 123 yX2_find, Cond.instanceMethod yX2_find, Cond.selects RX2 yX2_find yX2_find, Cond.code yX2_find cX2_find 4 (some .int)]
def wsX4_cancelled : List Cond := .code yX4_cancelled cX4_cancelled 5 (some .int) :: ((wsX4_cancelled_r1 ++ (wsX4_cancelled_r2 ++ (wsX4_cancelled_r3 ++ (wsX4_cancelled_r4 ++ wsX4_cancelled_r5)))) ++ wsX40 ++ wsX20 ++ wsX00 ++ wsX30)
def wsX4_above_r1 : List Cond := [Cond.fieldLink RX4 12 "MajorityIndex" "row" "LMajorityIndex$Row;", Cond.fieldLink RX4 151 "MajorityIndex$Tree" "from" "[I", Cond.fieldLink RX4 154 "MajorityIndex$Tree" "to" "[I", Cond.fieldLink RX4 110 "MajorityIndex$Row" "cell" "[I", Cond.methodLink RX4 64 yX0_hasPlace, Cond.instanceMethod yX0_hasPlace, Cond.selects RX0 yX0_hasPlace yX0_hasPlace, Cond.initialized RX0, Cond.code yX0_hasPlace cX0_hasPlace 2 (some .boolean), Cond.fieldLink RX0 15 "MajorityIndex$Row" "length" "I", Cond.methodLink RX4 71 yX4_laidTree, Cond.instanceMethod yX4_laidTree, Cond.selects RX4 yX4_laidTree yX4_laidTree, Cond.initialized RX4, Cond.code yX4_laidTree cX4_laidTree 1 (some (.object "MajorityIndex$Tree")), Cond.fieldLink RX4 53 "MajorityIndex" "treeIsOld" "Z", Cond.fieldLink RX4 21 "MajorityIndex" "tree" "LMajorityIndex$Tree;", Cond.fieldLink RX4 49 "MajorityIndex" "slotsNow" "I", Cond.fieldLink RX4 204 "MajorityIndex$Tree" "slotsHere" "I", Cond.fieldLink RX4 57 "MajorityIndex$Row" "length" "I", Cond.methodLink RX4 259 yX2_layRanges, Cond.instanceMethod yX2_layRanges, Cond.selects RX2 yX2_layRanges yX2_layRanges, Cond.initialized RX2]
def wsX4_above_r2 : List Cond := [Cond.code yX2_layRanges cX2_layRanges 2 none, Cond.fieldLink RX2 40 "MajorityIndex$Tree" "row" "LMajorityIndex$Row;", Cond.fieldLink RX2 44 "MajorityIndex$Row" "length" "I", Cond.fieldLink RX2 50 "MajorityIndex$Tree" "nodes" "I", Cond.fieldLink RX2 18 "MajorityIndex$Tree" "from" "[I", Cond.fieldLink RX2 22 "MajorityIndex$Tree" "to" "[I", Cond.methodLink RX2 53 yX2_layBelow, Cond.instanceMethod yX2_layBelow, Cond.selects RX2 yX2_layBelow yX2_layBelow, Cond.code yX2_layBelow cX2_layBelow 4 none, Cond.methodLink RX2 57 yX2_rightBelow, Cond.instanceMethod yX2_rightBelow, Cond.selects RX2 yX2_rightBelow yX2_rightBelow, Cond.code yX2_rightBelow cX2_rightBelow 3 (some .int), Cond.methodLink RX4 87 yX2_renew, Cond.instanceMethod yX2_renew, Cond.selects RX2 yX2_renew yX2_renew, Cond.code yX2_renew cX2_renew 5 (some .int), Cond.methodLink RX2 61 yX2_putTogether, Cond.instanceMethod yX2_putTogether, Cond.selects RX2 yX2_putTogether yX2_putTogether, Cond.code yX2_putTogether cX2_putTogether 2 none, Cond.fieldLink RX2 12 "MajorityIndex$Tree" "joined" "LMajorityIndex$Votes;", Cond.fieldLink RX2 74 "MajorityIndex$Row" "cell" "[I"]
def wsX4_above_r3 : List Cond := [Cond.fieldLink RX2 85 "MajorityIndex$Tree" "slotsHere" "I", Cond.methodLink RX2 71 yX3_clear, Cond.instanceMethod yX3_clear, Cond.selects RX3 yX3_clear yX3_clear, Cond.initialized RX3, Cond.code yX3_clear cX3_clear 1 none, Cond.fieldLink RX3 18 "MajorityIndex$Votes" "size" "I", Cond.fieldLink RX3 22 "MajorityIndex$Votes" "lost" "I", Cond.fieldLink RX3 25 "MajorityIndex$Votes" "lessBy" "I", Cond.methodLink RX2 77 yX3_add, Cond.instanceMethod yX3_add, Cond.selects RX3 yX3_add yX3_add, Cond.code yX3_add cX3_add 4 none, Cond.fieldLink RX3 9 "MajorityIndex$Votes" "value" "[I", Cond.fieldLink RX3 15 "MajorityIndex$Votes" "number" "[I", Cond.methodLink RX2 81 yX2_joinNode, Cond.instanceMethod yX2_joinNode, Cond.selects RX2 yX2_joinNode yX2_joinNode, Cond.code yX2_joinNode cX2_joinNode 5 none, Cond.fieldLink RX2 25 "MajorityIndex$Tree" "size" "[I", Cond.fieldLink RX2 34 "MajorityIndex$Tree" "value" "[I", Cond.fieldLink RX2 37 "MajorityIndex$Tree" "number" "[I", Cond.fieldLink RX2 91 "MajorityIndex$Votes" "lost" "I", Cond.fieldLink RX2 28 "MajorityIndex$Tree" "lossOf" "[I"]
def wsX4_above_r4 : List Cond := [Cond.methodLink RX2 88 yX3_cancel, Cond.instanceMethod yX3_cancel, Cond.selects RX3 yX3_cancel yX3_cancel, Cond.code yX3_cancel cX3_cancel 4 none, Cond.methodLink RX3 32 yX3_order, Cond.instanceMethod yX3_order, Cond.selects RX3 yX3_order yX3_order, Cond.code yX3_order cX3_order 3 none, Cond.methodLink RX3 35 yX3_isAhead, Cond.instanceMethod yX3_isAhead, Cond.selects RX3 yX3_isAhead yX3_isAhead, Cond.code yX3_isAhead cX3_isAhead 3 (some .boolean), Cond.methodLink RX3 39 yX3_exchange, Cond.instanceMethod yX3_exchange, Cond.selects RX3 yX3_exchange yX3_exchange, Cond.code yX3_exchange cX3_exchange 5 none, Cond.methodLink RX2 64 yX2_isJoined, Cond.instanceMethod yX2_isJoined, Cond.selects RX2 yX2_isJoined yX2_isJoined, Cond.code yX2_isJoined cX2_isJoined 4 (some .boolean), Cond.fieldLink RX2 94 "MajorityIndex$Votes" "size" "I", Cond.fieldLink RX2 96 "MajorityIndex$Votes" "value" "[I", Cond.fieldLink RX2 97 "MajorityIndex$Votes" "number" "[I", Cond.methodLink RX2 68 yX2_keepJoined]
def wsX4_above_r5 : List Cond := [Cond.instanceMethod yX2_keepJoined, Cond.selects RX2 yX2_keepJoined yX2_keepJoined, Cond.code yX2_keepJoined cX2_keepJoined 4 none, Cond.methodLink RX2 98 Lib.Math.min.name, Cond.static Lib.Math.min.name, Cond.initialized "java/lang/Math", Cond.code Lib.Math.min.name Lib.Math.min.code 2 (some .int), Cond.fieldLink RX2 31 "MajorityIndex$Tree" "lessBy" "[I", Cond.fieldLink RX2 104 "MajorityIndex$Votes" "lessBy" "I", Cond.methodLink RX4 145 yX2_depthAt, Cond.instanceMethod yX2_depthAt, Cond.selects RX2 yX2_depthAt yX2_depthAt, Cond.code yX2_depthAt cX2_depthAt 4 (some .int), Cond.methodLink RX2 110 yX2_hasPlace, Cond.instanceMethod yX2_hasPlace, Cond.selects RX2 yX2_hasPlace yX2_hasPlace, Cond.code yX2_hasPlace cX2_hasPlace 3 (some .boolean), Cond.methodLink RX4 148 yX2_onPath, Cond.instanceMethod yX2_onPath, Cond.selects RX2 yX2_onPath yX2_onPath, Cond.code yX2_onPath cX2_onPath 5 (some .int), Cond.methodLink RX4 157 yX2_numberIn, Cond.instanceMethod yX2_numberIn, Cond.selects RX2 yX2_numberIn yX2_numberIn]
def wsX4_above_r6 : List Cond := [Cond.code yX2_numberIn cX2_numberIn 5 (some .int)]
def wsX4_above : List Cond := .code yX4_above cX4_above 6 (some .int) :: ((wsX4_above_r1 ++ (wsX4_above_r2 ++ (wsX4_above_r3 ++ (wsX4_above_r4 ++ (wsX4_above_r5 ++ wsX4_above_r6))))) ++ wsX40 ++ wsX20 ++ wsX00 ++ wsX30)
def wsX4_holds_r1 : List Cond := [Cond.fieldLink RX4 12 "MajorityIndex" "row" "LMajorityIndex$Row;", Cond.methodLink RX4 64 yX0_hasPlace, Cond.instanceMethod yX0_hasPlace, Cond.selects RX0 yX0_hasPlace yX0_hasPlace, Cond.initialized RX0, Cond.code yX0_hasPlace cX0_hasPlace 2 (some .boolean), Cond.fieldLink RX0 15 "MajorityIndex$Row" "length" "I", Cond.methodLink RX4 71 yX4_laidTree, Cond.instanceMethod yX4_laidTree, Cond.selects RX4 yX4_laidTree yX4_laidTree, Cond.initialized RX4, Cond.code yX4_laidTree cX4_laidTree 1 (some (.object "MajorityIndex$Tree")), Cond.fieldLink RX4 53 "MajorityIndex" "treeIsOld" "Z", Cond.fieldLink RX4 21 "MajorityIndex" "tree" "LMajorityIndex$Tree;", Cond.fieldLink RX4 49 "MajorityIndex" "slotsNow" "I", Cond.fieldLink RX4 204 "MajorityIndex$Tree" "slotsHere" "I", Cond.fieldLink RX4 57 "MajorityIndex$Row" "length" "I", Cond.methodLink RX4 259 yX2_layRanges, Cond.instanceMethod yX2_layRanges, Cond.selects RX2 yX2_layRanges yX2_layRanges, Cond.initialized RX2, Cond.code yX2_layRanges cX2_layRanges 2 none, Cond.fieldLink RX2 40 "MajorityIndex$Tree" "row" "LMajorityIndex$Row;", Cond.fieldLink RX2 44 "MajorityIndex$Row" "length" "I"]
def wsX4_holds_r2 : List Cond := [Cond.fieldLink RX2 50 "MajorityIndex$Tree" "nodes" "I", Cond.fieldLink RX2 18 "MajorityIndex$Tree" "from" "[I", Cond.fieldLink RX2 22 "MajorityIndex$Tree" "to" "[I", Cond.methodLink RX2 53 yX2_layBelow, Cond.instanceMethod yX2_layBelow, Cond.selects RX2 yX2_layBelow yX2_layBelow, Cond.code yX2_layBelow cX2_layBelow 4 none, Cond.methodLink RX2 57 yX2_rightBelow, Cond.instanceMethod yX2_rightBelow, Cond.selects RX2 yX2_rightBelow yX2_rightBelow, Cond.code yX2_rightBelow cX2_rightBelow 3 (some .int), Cond.methodLink RX4 87 yX2_renew, Cond.instanceMethod yX2_renew, Cond.selects RX2 yX2_renew yX2_renew, Cond.code yX2_renew cX2_renew 5 (some .int), Cond.methodLink RX2 61 yX2_putTogether, Cond.instanceMethod yX2_putTogether, Cond.selects RX2 yX2_putTogether yX2_putTogether, Cond.code yX2_putTogether cX2_putTogether 2 none, Cond.fieldLink RX2 12 "MajorityIndex$Tree" "joined" "LMajorityIndex$Votes;", Cond.fieldLink RX2 74 "MajorityIndex$Row" "cell" "[I", Cond.fieldLink RX2 85 "MajorityIndex$Tree" "slotsHere" "I", Cond.methodLink RX2 71 yX3_clear, Cond.instanceMethod yX3_clear]
def wsX4_holds_r3 : List Cond := [Cond.selects RX3 yX3_clear yX3_clear, Cond.initialized RX3, Cond.code yX3_clear cX3_clear 1 none, Cond.fieldLink RX3 18 "MajorityIndex$Votes" "size" "I", Cond.fieldLink RX3 22 "MajorityIndex$Votes" "lost" "I", Cond.fieldLink RX3 25 "MajorityIndex$Votes" "lessBy" "I", Cond.methodLink RX2 77 yX3_add, Cond.instanceMethod yX3_add, Cond.selects RX3 yX3_add yX3_add, Cond.code yX3_add cX3_add 4 none, Cond.fieldLink RX3 9 "MajorityIndex$Votes" "value" "[I", Cond.fieldLink RX3 15 "MajorityIndex$Votes" "number" "[I", Cond.methodLink RX2 81 yX2_joinNode, Cond.instanceMethod yX2_joinNode, Cond.selects RX2 yX2_joinNode yX2_joinNode, Cond.code yX2_joinNode cX2_joinNode 5 none, Cond.fieldLink RX2 25 "MajorityIndex$Tree" "size" "[I", Cond.fieldLink RX2 34 "MajorityIndex$Tree" "value" "[I", Cond.fieldLink RX2 37 "MajorityIndex$Tree" "number" "[I", Cond.fieldLink RX2 91 "MajorityIndex$Votes" "lost" "I", Cond.fieldLink RX2 28 "MajorityIndex$Tree" "lossOf" "[I", Cond.methodLink RX2 88 yX3_cancel, Cond.instanceMethod yX3_cancel, Cond.selects RX3 yX3_cancel yX3_cancel]
def wsX4_holds_r4 : List Cond := [Cond.code yX3_cancel cX3_cancel 4 none, Cond.methodLink RX3 32 yX3_order, Cond.instanceMethod yX3_order, Cond.selects RX3 yX3_order yX3_order, Cond.code yX3_order cX3_order 3 none, Cond.methodLink RX3 35 yX3_isAhead, Cond.instanceMethod yX3_isAhead, Cond.selects RX3 yX3_isAhead yX3_isAhead, Cond.code yX3_isAhead cX3_isAhead 3 (some .boolean), Cond.methodLink RX3 39 yX3_exchange, Cond.instanceMethod yX3_exchange, Cond.selects RX3 yX3_exchange yX3_exchange, Cond.code yX3_exchange cX3_exchange 5 none, Cond.methodLink RX2 64 yX2_isJoined, Cond.instanceMethod yX2_isJoined, Cond.selects RX2 yX2_isJoined yX2_isJoined, Cond.code yX2_isJoined cX2_isJoined 4 (some .boolean), Cond.fieldLink RX2 94 "MajorityIndex$Votes" "size" "I", Cond.fieldLink RX2 96 "MajorityIndex$Votes" "value" "[I", Cond.fieldLink RX2 97 "MajorityIndex$Votes" "number" "[I", Cond.methodLink RX2 68 yX2_keepJoined, Cond.instanceMethod yX2_keepJoined, Cond.selects RX2 yX2_keepJoined yX2_keepJoined, Cond.code yX2_keepJoined cX2_keepJoined 4 none]
def wsX4_holds_r5 : List Cond := [Cond.methodLink RX2 98 Lib.Math.min.name, Cond.static Lib.Math.min.name, Cond.initialized "java/lang/Math", Cond.code Lib.Math.min.name Lib.Math.min.code 2 (some .int), Cond.fieldLink RX2 31 "MajorityIndex$Tree" "lessBy" "[I", Cond.fieldLink RX2 104 "MajorityIndex$Votes" "lessBy" "I", Cond.methodLink RX4 160 yX2_holding, Cond.instanceMethod yX2_holding, Cond.selects RX2 yX2_holding yX2_holding, Cond.code yX2_holding cX2_holding 4 (some .int), Cond.methodLink RX2 110 yX2_hasPlace, Cond.instanceMethod yX2_hasPlace, Cond.selects RX2 yX2_hasPlace yX2_hasPlace, Cond.code yX2_hasPlace cX2_hasPlace 3 (some .boolean), Cond.methodLink RX2 114 yX2_numberIn, Cond.instanceMethod yX2_numberIn, Cond.selects RX2 yX2_numberIn yX2_numberIn, Cond.code yX2_numberIn cX2_numberIn 5 (some .int)]
def wsX4_holds : List Cond := .code yX4_holds cX4_holds 2 (some .int) :: ((wsX4_holds_r1 ++ (wsX4_holds_r2 ++ (wsX4_holds_r3 ++ (wsX4_holds_r4 ++ wsX4_holds_r5)))) ++ wsX40 ++ wsX00 ++ wsX20 ++ wsX30)
def wsX4_parts_r1 : List Cond := [Cond.fieldLink RX4 12 "MajorityIndex" "row" "LMajorityIndex$Row;", Cond.fieldLink RX4 163 "MajorityIndex$Tree" "nodes" "I", Cond.fieldLink RX4 154 "MajorityIndex$Tree" "to" "[I", Cond.methodLink RX4 79 yX0_hasRange, Cond.instanceMethod yX0_hasRange, Cond.selects RX0 yX0_hasRange yX0_hasRange, Cond.initialized RX0, Cond.code yX0_hasRange cX0_hasRange 3 (some .boolean), Cond.fieldLink RX0 15 "MajorityIndex$Row" "length" "I", Cond.methodLink RX4 71 yX4_laidTree, Cond.instanceMethod yX4_laidTree, Cond.selects RX4 yX4_laidTree yX4_laidTree, Cond.initialized RX4, Cond.code yX4_laidTree cX4_laidTree 1 (some (.object "MajorityIndex$Tree")), Cond.fieldLink RX4 53 "MajorityIndex" "treeIsOld" "Z", Cond.fieldLink RX4 21 "MajorityIndex" "tree" "LMajorityIndex$Tree;", Cond.fieldLink RX4 49 "MajorityIndex" "slotsNow" "I", Cond.fieldLink RX4 204 "MajorityIndex$Tree" "slotsHere" "I", Cond.fieldLink RX4 57 "MajorityIndex$Row" "length" "I", Cond.methodLink RX4 259 yX2_layRanges, Cond.instanceMethod yX2_layRanges, Cond.selects RX2 yX2_layRanges yX2_layRanges, Cond.initialized RX2, Cond.code yX2_layRanges cX2_layRanges 2 none]
def wsX4_parts_r2 : List Cond := [Cond.fieldLink RX2 40 "MajorityIndex$Tree" "row" "LMajorityIndex$Row;", Cond.fieldLink RX2 44 "MajorityIndex$Row" "length" "I", Cond.fieldLink RX2 50 "MajorityIndex$Tree" "nodes" "I", Cond.fieldLink RX2 18 "MajorityIndex$Tree" "from" "[I", Cond.fieldLink RX2 22 "MajorityIndex$Tree" "to" "[I", Cond.methodLink RX2 53 yX2_layBelow, Cond.instanceMethod yX2_layBelow, Cond.selects RX2 yX2_layBelow yX2_layBelow, Cond.code yX2_layBelow cX2_layBelow 4 none, Cond.methodLink RX2 57 yX2_rightBelow, Cond.instanceMethod yX2_rightBelow, Cond.selects RX2 yX2_rightBelow yX2_rightBelow, Cond.code yX2_rightBelow cX2_rightBelow 3 (some .int), Cond.methodLink RX4 87 yX2_renew, Cond.instanceMethod yX2_renew, Cond.selects RX2 yX2_renew yX2_renew, Cond.code yX2_renew cX2_renew 5 (some .int), Cond.methodLink RX2 61 yX2_putTogether, Cond.instanceMethod yX2_putTogether, Cond.selects RX2 yX2_putTogether yX2_putTogether, Cond.code yX2_putTogether cX2_putTogether 2 none, Cond.fieldLink RX2 12 "MajorityIndex$Tree" "joined" "LMajorityIndex$Votes;", Cond.fieldLink RX2 74 "MajorityIndex$Row" "cell" "[I", Cond.fieldLink RX2 85 "MajorityIndex$Tree" "slotsHere" "I"]
def wsX4_parts_r3 : List Cond := [Cond.methodLink RX2 71 yX3_clear, Cond.instanceMethod yX3_clear, Cond.selects RX3 yX3_clear yX3_clear, Cond.initialized RX3, Cond.code yX3_clear cX3_clear 1 none, Cond.fieldLink RX3 18 "MajorityIndex$Votes" "size" "I", Cond.fieldLink RX3 22 "MajorityIndex$Votes" "lost" "I", Cond.fieldLink RX3 25 "MajorityIndex$Votes" "lessBy" "I", Cond.methodLink RX2 77 yX3_add, Cond.instanceMethod yX3_add, Cond.selects RX3 yX3_add yX3_add, Cond.code yX3_add cX3_add 4 none, Cond.fieldLink RX3 9 "MajorityIndex$Votes" "value" "[I", Cond.fieldLink RX3 15 "MajorityIndex$Votes" "number" "[I", Cond.methodLink RX2 81 yX2_joinNode, Cond.instanceMethod yX2_joinNode, Cond.selects RX2 yX2_joinNode yX2_joinNode, Cond.code yX2_joinNode cX2_joinNode 5 none, Cond.fieldLink RX2 25 "MajorityIndex$Tree" "size" "[I", Cond.fieldLink RX2 34 "MajorityIndex$Tree" "value" "[I", Cond.fieldLink RX2 37 "MajorityIndex$Tree" "number" "[I", Cond.fieldLink RX2 91 "MajorityIndex$Votes" "lost" "I", Cond.fieldLink RX2 28 "MajorityIndex$Tree" "lossOf" "[I", Cond.methodLink RX2 88 yX3_cancel]
def wsX4_parts_r4 : List Cond := [Cond.instanceMethod yX3_cancel, Cond.selects RX3 yX3_cancel yX3_cancel, Cond.code yX3_cancel cX3_cancel 4 none, Cond.methodLink RX3 32 yX3_order, Cond.instanceMethod yX3_order, Cond.selects RX3 yX3_order yX3_order, Cond.code yX3_order cX3_order 3 none, Cond.methodLink RX3 35 yX3_isAhead, Cond.instanceMethod yX3_isAhead, Cond.selects RX3 yX3_isAhead yX3_isAhead, Cond.code yX3_isAhead cX3_isAhead 3 (some .boolean), Cond.methodLink RX3 39 yX3_exchange, Cond.instanceMethod yX3_exchange, Cond.selects RX3 yX3_exchange yX3_exchange, Cond.code yX3_exchange cX3_exchange 5 none, Cond.methodLink RX2 64 yX2_isJoined, Cond.instanceMethod yX2_isJoined, Cond.selects RX2 yX2_isJoined yX2_isJoined, Cond.code yX2_isJoined cX2_isJoined 4 (some .boolean), Cond.fieldLink RX2 94 "MajorityIndex$Votes" "size" "I", Cond.fieldLink RX2 96 "MajorityIndex$Votes" "value" "[I", Cond.fieldLink RX2 97 "MajorityIndex$Votes" "number" "[I", Cond.methodLink RX2 68 yX2_keepJoined, Cond.instanceMethod yX2_keepJoined]
def wsX4_parts_r5 : List Cond := [Cond.selects RX2 yX2_keepJoined yX2_keepJoined, Cond.code yX2_keepJoined cX2_keepJoined 4 none, Cond.methodLink RX2 98 Lib.Math.min.name, Cond.static Lib.Math.min.name, Cond.initialized "java/lang/Math", Cond.code Lib.Math.min.name Lib.Math.min.code 2 (some .int), Cond.fieldLink RX2 31 "MajorityIndex$Tree" "lessBy" "[I", Cond.fieldLink RX2 104 "MajorityIndex$Votes" "lessBy" "I", Cond.methodLink RX4 166 yX2_isPart, Cond.instanceMethod yX2_isPart, Cond.selects RX2 yX2_isPart yX2_isPart, Cond.code yX2_isPart cX2_isPart 4 (some .boolean)]
def wsX4_parts : List Cond := .code yX4_parts cX4_parts 7 (some .int) :: ((wsX4_parts_r1 ++ (wsX4_parts_r2 ++ (wsX4_parts_r3 ++ (wsX4_parts_r4 ++ wsX4_parts_r5)))) ++ wsX40 ++ wsX20 ++ wsX00 ++ wsX30)
def wsX4_part_r1 : List Cond := [Cond.fieldLink RX4 12 "MajorityIndex" "row" "LMajorityIndex$Row;", Cond.fieldLink RX4 163 "MajorityIndex$Tree" "nodes" "I", Cond.fieldLink RX4 151 "MajorityIndex$Tree" "from" "[I", Cond.fieldLink RX4 154 "MajorityIndex$Tree" "to" "[I", Cond.methodLink RX4 79 yX0_hasRange, Cond.instanceMethod yX0_hasRange, Cond.selects RX0 yX0_hasRange yX0_hasRange, Cond.initialized RX0, Cond.code yX0_hasRange cX0_hasRange 3 (some .boolean), Cond.fieldLink RX0 15 "MajorityIndex$Row" "length" "I", Cond.methodLink RX4 71 yX4_laidTree, Cond.instanceMethod yX4_laidTree, Cond.selects RX4 yX4_laidTree yX4_laidTree, Cond.initialized RX4, Cond.code yX4_laidTree cX4_laidTree 1 (some (.object "MajorityIndex$Tree")), Cond.fieldLink RX4 53 "MajorityIndex" "treeIsOld" "Z", Cond.fieldLink RX4 21 "MajorityIndex" "tree" "LMajorityIndex$Tree;", Cond.fieldLink RX4 49 "MajorityIndex" "slotsNow" "I", Cond.fieldLink RX4 204 "MajorityIndex$Tree" "slotsHere" "I", Cond.fieldLink RX4 57 "MajorityIndex$Row" "length" "I", Cond.methodLink RX4 259 yX2_layRanges, Cond.instanceMethod yX2_layRanges, Cond.selects RX2 yX2_layRanges yX2_layRanges, Cond.initialized RX2]
def wsX4_part_r2 : List Cond := [Cond.code yX2_layRanges cX2_layRanges 2 none, Cond.fieldLink RX2 40 "MajorityIndex$Tree" "row" "LMajorityIndex$Row;", Cond.fieldLink RX2 44 "MajorityIndex$Row" "length" "I", Cond.fieldLink RX2 50 "MajorityIndex$Tree" "nodes" "I", Cond.fieldLink RX2 18 "MajorityIndex$Tree" "from" "[I", Cond.fieldLink RX2 22 "MajorityIndex$Tree" "to" "[I", Cond.methodLink RX2 53 yX2_layBelow, Cond.instanceMethod yX2_layBelow, Cond.selects RX2 yX2_layBelow yX2_layBelow, Cond.code yX2_layBelow cX2_layBelow 4 none, Cond.methodLink RX2 57 yX2_rightBelow, Cond.instanceMethod yX2_rightBelow, Cond.selects RX2 yX2_rightBelow yX2_rightBelow, Cond.code yX2_rightBelow cX2_rightBelow 3 (some .int), Cond.methodLink RX4 87 yX2_renew, Cond.instanceMethod yX2_renew, Cond.selects RX2 yX2_renew yX2_renew, Cond.code yX2_renew cX2_renew 5 (some .int), Cond.methodLink RX2 61 yX2_putTogether, Cond.instanceMethod yX2_putTogether, Cond.selects RX2 yX2_putTogether yX2_putTogether, Cond.code yX2_putTogether cX2_putTogether 2 none, Cond.fieldLink RX2 12 "MajorityIndex$Tree" "joined" "LMajorityIndex$Votes;", Cond.fieldLink RX2 74 "MajorityIndex$Row" "cell" "[I"]
def wsX4_part_r3 : List Cond := [Cond.fieldLink RX2 85 "MajorityIndex$Tree" "slotsHere" "I", Cond.methodLink RX2 71 yX3_clear, Cond.instanceMethod yX3_clear, Cond.selects RX3 yX3_clear yX3_clear, Cond.initialized RX3, Cond.code yX3_clear cX3_clear 1 none, Cond.fieldLink RX3 18 "MajorityIndex$Votes" "size" "I", Cond.fieldLink RX3 22 "MajorityIndex$Votes" "lost" "I", Cond.fieldLink RX3 25 "MajorityIndex$Votes" "lessBy" "I", Cond.methodLink RX2 77 yX3_add, Cond.instanceMethod yX3_add, Cond.selects RX3 yX3_add yX3_add, Cond.code yX3_add cX3_add 4 none, Cond.fieldLink RX3 9 "MajorityIndex$Votes" "value" "[I", Cond.fieldLink RX3 15 "MajorityIndex$Votes" "number" "[I", Cond.methodLink RX2 81 yX2_joinNode, Cond.instanceMethod yX2_joinNode, Cond.selects RX2 yX2_joinNode yX2_joinNode, Cond.code yX2_joinNode cX2_joinNode 5 none, Cond.fieldLink RX2 25 "MajorityIndex$Tree" "size" "[I", Cond.fieldLink RX2 34 "MajorityIndex$Tree" "value" "[I", Cond.fieldLink RX2 37 "MajorityIndex$Tree" "number" "[I", Cond.fieldLink RX2 91 "MajorityIndex$Votes" "lost" "I", Cond.fieldLink RX2 28 "MajorityIndex$Tree" "lossOf" "[I"]
def wsX4_part_r4 : List Cond := [Cond.methodLink RX2 88 yX3_cancel, Cond.instanceMethod yX3_cancel, Cond.selects RX3 yX3_cancel yX3_cancel, Cond.code yX3_cancel cX3_cancel 4 none, Cond.methodLink RX3 32 yX3_order, Cond.instanceMethod yX3_order, Cond.selects RX3 yX3_order yX3_order, Cond.code yX3_order cX3_order 3 none, Cond.methodLink RX3 35 yX3_isAhead, Cond.instanceMethod yX3_isAhead, Cond.selects RX3 yX3_isAhead yX3_isAhead, Cond.code yX3_isAhead cX3_isAhead 3 (some .boolean), Cond.methodLink RX3 39 yX3_exchange, Cond.instanceMethod yX3_exchange, Cond.selects RX3 yX3_exchange yX3_exchange, Cond.code yX3_exchange cX3_exchange 5 none, Cond.methodLink RX2 64 yX2_isJoined, Cond.instanceMethod yX2_isJoined, Cond.selects RX2 yX2_isJoined yX2_isJoined, Cond.code yX2_isJoined cX2_isJoined 4 (some .boolean), Cond.fieldLink RX2 94 "MajorityIndex$Votes" "size" "I", Cond.fieldLink RX2 96 "MajorityIndex$Votes" "value" "[I", Cond.fieldLink RX2 97 "MajorityIndex$Votes" "number" "[I", Cond.methodLink RX2 68 yX2_keepJoined]
def wsX4_part_r5 : List Cond := [Cond.instanceMethod yX2_keepJoined, Cond.selects RX2 yX2_keepJoined yX2_keepJoined, Cond.code yX2_keepJoined cX2_keepJoined 4 none, Cond.methodLink RX2 98 Lib.Math.min.name, Cond.static Lib.Math.min.name, Cond.initialized "java/lang/Math", Cond.code Lib.Math.min.name Lib.Math.min.code 2 (some .int), Cond.fieldLink RX2 31 "MajorityIndex$Tree" "lessBy" "[I", Cond.fieldLink RX2 104 "MajorityIndex$Votes" "lessBy" "I", Cond.methodLink RX4 166 yX2_isPart, Cond.instanceMethod yX2_isPart, Cond.selects RX2 yX2_isPart yX2_isPart, Cond.code yX2_isPart cX2_isPart 4 (some .boolean)]
def wsX4_part : List Cond := .code yX4_part cX4_part 9 (some .int) :: ((wsX4_part_r1 ++ (wsX4_part_r2 ++ (wsX4_part_r3 ++ (wsX4_part_r4 ++ wsX4_part_r5)))) ++ wsX40 ++ wsX20 ++ wsX00 ++ wsX30)
def wsX4_summary_r1 : List Cond := [Cond.fieldLink RX4 12 "MajorityIndex" "row" "LMajorityIndex$Row;", Cond.fieldLink RX4 35 "MajorityIndex" "votes" "LMajorityIndex$Votes;", Cond.fieldLink RX4 174 "MajorityIndex$Votes" "size" "I", Cond.fieldLink RX4 180 "MajorityIndex$Votes" "lost" "I", Cond.methodLink RX4 79 yX0_hasRange, Cond.instanceMethod yX0_hasRange, Cond.selects RX0 yX0_hasRange yX0_hasRange, Cond.initialized RX0, Cond.code yX0_hasRange cX0_hasRange 3 (some .boolean), Cond.fieldLink RX0 15 "MajorityIndex$Row" "length" "I", Cond.methodLink RX4 71 yX4_laidTree, Cond.instanceMethod yX4_laidTree, Cond.selects RX4 yX4_laidTree yX4_laidTree, Cond.initialized RX4, Cond.code yX4_laidTree cX4_laidTree 1 (some (.object "MajorityIndex$Tree")), Cond.fieldLink RX4 53 "MajorityIndex" "treeIsOld" "Z", Cond.fieldLink RX4 21 "MajorityIndex" "tree" "LMajorityIndex$Tree;", Cond.fieldLink RX4 49 "MajorityIndex" "slotsNow" "I", Cond.fieldLink RX4 204 "MajorityIndex$Tree" "slotsHere" "I", Cond.fieldLink RX4 57 "MajorityIndex$Row" "length" "I", Cond.methodLink RX4 259 yX2_layRanges, Cond.instanceMethod yX2_layRanges, Cond.selects RX2 yX2_layRanges yX2_layRanges, Cond.initialized RX2]
def wsX4_summary_r2 : List Cond := [Cond.code yX2_layRanges cX2_layRanges 2 none, Cond.fieldLink RX2 40 "MajorityIndex$Tree" "row" "LMajorityIndex$Row;", Cond.fieldLink RX2 44 "MajorityIndex$Row" "length" "I", Cond.fieldLink RX2 50 "MajorityIndex$Tree" "nodes" "I", Cond.fieldLink RX2 18 "MajorityIndex$Tree" "from" "[I", Cond.fieldLink RX2 22 "MajorityIndex$Tree" "to" "[I", Cond.methodLink RX2 53 yX2_layBelow, Cond.instanceMethod yX2_layBelow, Cond.selects RX2 yX2_layBelow yX2_layBelow, Cond.code yX2_layBelow cX2_layBelow 4 none, Cond.methodLink RX2 57 yX2_rightBelow, Cond.instanceMethod yX2_rightBelow, Cond.selects RX2 yX2_rightBelow yX2_rightBelow, Cond.code yX2_rightBelow cX2_rightBelow 3 (some .int), Cond.methodLink RX4 87 yX2_renew, Cond.instanceMethod yX2_renew, Cond.selects RX2 yX2_renew yX2_renew, Cond.code yX2_renew cX2_renew 5 (some .int), Cond.methodLink RX2 61 yX2_putTogether, Cond.instanceMethod yX2_putTogether, Cond.selects RX2 yX2_putTogether yX2_putTogether, Cond.code yX2_putTogether cX2_putTogether 2 none, Cond.fieldLink RX2 12 "MajorityIndex$Tree" "joined" "LMajorityIndex$Votes;", Cond.fieldLink RX2 74 "MajorityIndex$Row" "cell" "[I"]
def wsX4_summary_r3 : List Cond := [Cond.fieldLink RX2 85 "MajorityIndex$Tree" "slotsHere" "I", Cond.methodLink RX2 71 yX3_clear, Cond.instanceMethod yX3_clear, Cond.selects RX3 yX3_clear yX3_clear, Cond.initialized RX3, Cond.code yX3_clear cX3_clear 1 none, Cond.fieldLink RX3 18 "MajorityIndex$Votes" "size" "I", Cond.fieldLink RX3 22 "MajorityIndex$Votes" "lost" "I", Cond.fieldLink RX3 25 "MajorityIndex$Votes" "lessBy" "I", Cond.methodLink RX2 77 yX3_add, Cond.instanceMethod yX3_add, Cond.selects RX3 yX3_add yX3_add, Cond.code yX3_add cX3_add 4 none, Cond.fieldLink RX3 9 "MajorityIndex$Votes" "value" "[I", Cond.fieldLink RX3 15 "MajorityIndex$Votes" "number" "[I", Cond.methodLink RX2 81 yX2_joinNode, Cond.instanceMethod yX2_joinNode, Cond.selects RX2 yX2_joinNode yX2_joinNode, Cond.code yX2_joinNode cX2_joinNode 5 none, Cond.fieldLink RX2 25 "MajorityIndex$Tree" "size" "[I", Cond.fieldLink RX2 34 "MajorityIndex$Tree" "value" "[I", Cond.fieldLink RX2 37 "MajorityIndex$Tree" "number" "[I", Cond.fieldLink RX2 91 "MajorityIndex$Votes" "lost" "I", Cond.fieldLink RX2 28 "MajorityIndex$Tree" "lossOf" "[I"]
def wsX4_summary_r4 : List Cond := [Cond.methodLink RX2 88 yX3_cancel, Cond.instanceMethod yX3_cancel, Cond.selects RX3 yX3_cancel yX3_cancel, Cond.code yX3_cancel cX3_cancel 4 none, Cond.methodLink RX3 32 yX3_order, Cond.instanceMethod yX3_order, Cond.selects RX3 yX3_order yX3_order, Cond.code yX3_order cX3_order 3 none, Cond.methodLink RX3 35 yX3_isAhead, Cond.instanceMethod yX3_isAhead, Cond.selects RX3 yX3_isAhead yX3_isAhead, Cond.code yX3_isAhead cX3_isAhead 3 (some .boolean), Cond.methodLink RX3 39 yX3_exchange, Cond.instanceMethod yX3_exchange, Cond.selects RX3 yX3_exchange yX3_exchange, Cond.code yX3_exchange cX3_exchange 5 none, Cond.methodLink RX2 64 yX2_isJoined, Cond.instanceMethod yX2_isJoined, Cond.selects RX2 yX2_isJoined yX2_isJoined, Cond.code yX2_isJoined cX2_isJoined 4 (some .boolean), Cond.fieldLink RX2 94 "MajorityIndex$Votes" "size" "I", Cond.fieldLink RX2 96 "MajorityIndex$Votes" "value" "[I", Cond.fieldLink RX2 97 "MajorityIndex$Votes" "number" "[I", Cond.methodLink RX2 68 yX2_keepJoined]
def wsX4_summary_r5 : List Cond := [Cond.instanceMethod yX2_keepJoined, Cond.selects RX2 yX2_keepJoined yX2_keepJoined, Cond.code yX2_keepJoined cX2_keepJoined 4 none, Cond.methodLink RX2 98 Lib.Math.min.name, Cond.static Lib.Math.min.name, Cond.initialized "java/lang/Math", Cond.code Lib.Math.min.name Lib.Math.min.code 2 (some .int), Cond.fieldLink RX2 31 "MajorityIndex$Tree" "lessBy" "[I", Cond.fieldLink RX2 104 "MajorityIndex$Votes" "lessBy" "I", Cond.methodLink RX4 170 yX2_gather, Cond.instanceMethod yX2_gather, Cond.selects RX2 yX2_gather yX2_gather, Cond.code yX2_gather cX2_gather 6 none, Cond.methodLink RX2 106 yX2_isPart, Cond.instanceMethod yX2_isPart, Cond.selects RX2 yX2_isPart yX2_isPart, Cond.code yX2_isPart cX2_isPart 4 (some .boolean), Cond.methodLink RX4 176 yX3_total, Cond.instanceMethod yX3_total, Cond.selects RX3 yX3_total yX3_total, Cond.code yX3_total cX3_total 3 (some .int)]
def wsX4_summary : List Cond := .code yX4_summary cX4_summary 4 (some .int) :: ((wsX4_summary_r1 ++ (wsX4_summary_r2 ++ (wsX4_summary_r3 ++ (wsX4_summary_r4 ++ wsX4_summary_r5)))) ++ wsX40 ++ wsX30 ++ wsX00 ++ wsX20)
def wsX4_lost_r1 : List Cond := [Cond.fieldLink RX4 12 "MajorityIndex" "row" "LMajorityIndex$Row;", Cond.fieldLink RX4 35 "MajorityIndex" "votes" "LMajorityIndex$Votes;", Cond.methodLink RX4 68 yX4_isValue, Cond.static yX4_isValue, Cond.initialized RX4, Cond.code yX4_isValue cX4_isValue 1 (some .boolean), Cond.methodLink RX4 79 yX0_hasRange, Cond.instanceMethod yX0_hasRange, Cond.selects RX0 yX0_hasRange yX0_hasRange, Cond.initialized RX0, Cond.code yX0_hasRange cX0_hasRange 3 (some .boolean), Cond.fieldLink RX0 15 "MajorityIndex$Row" "length" "I", Cond.methodLink RX4 71 yX4_laidTree, Cond.instanceMethod yX4_laidTree, Cond.selects RX4 yX4_laidTree yX4_laidTree, Cond.code yX4_laidTree cX4_laidTree 1 (some (.object "MajorityIndex$Tree")), Cond.fieldLink RX4 53 "MajorityIndex" "treeIsOld" "Z", Cond.fieldLink RX4 21 "MajorityIndex" "tree" "LMajorityIndex$Tree;", Cond.fieldLink RX4 49 "MajorityIndex" "slotsNow" "I", Cond.fieldLink RX4 204 "MajorityIndex$Tree" "slotsHere" "I", Cond.fieldLink RX4 57 "MajorityIndex$Row" "length" "I", Cond.methodLink RX4 259 yX2_layRanges, Cond.instanceMethod yX2_layRanges, Cond.selects RX2 yX2_layRanges yX2_layRanges]
def wsX4_lost_r2 : List Cond := [Cond.initialized RX2, Cond.code yX2_layRanges cX2_layRanges 2 none, Cond.fieldLink RX2 40 "MajorityIndex$Tree" "row" "LMajorityIndex$Row;", Cond.fieldLink RX2 44 "MajorityIndex$Row" "length" "I", Cond.fieldLink RX2 50 "MajorityIndex$Tree" "nodes" "I", Cond.fieldLink RX2 18 "MajorityIndex$Tree" "from" "[I", Cond.fieldLink RX2 22 "MajorityIndex$Tree" "to" "[I", Cond.methodLink RX2 53 yX2_layBelow, Cond.instanceMethod yX2_layBelow, Cond.selects RX2 yX2_layBelow yX2_layBelow, Cond.code yX2_layBelow cX2_layBelow 4 none, Cond.methodLink RX2 57 yX2_rightBelow, Cond.instanceMethod yX2_rightBelow, Cond.selects RX2 yX2_rightBelow yX2_rightBelow, Cond.code yX2_rightBelow cX2_rightBelow 3 (some .int), Cond.methodLink RX4 87 yX2_renew, Cond.instanceMethod yX2_renew, Cond.selects RX2 yX2_renew yX2_renew, Cond.code yX2_renew cX2_renew 5 (some .int), Cond.methodLink RX2 61 yX2_putTogether, Cond.instanceMethod yX2_putTogether, Cond.selects RX2 yX2_putTogether yX2_putTogether, Cond.code yX2_putTogether cX2_putTogether 2 none, Cond.fieldLink RX2 12 "MajorityIndex$Tree" "joined" "LMajorityIndex$Votes;"]
def wsX4_lost_r3 : List Cond := [Cond.fieldLink RX2 74 "MajorityIndex$Row" "cell" "[I", Cond.fieldLink RX2 85 "MajorityIndex$Tree" "slotsHere" "I", Cond.methodLink RX2 71 yX3_clear, Cond.instanceMethod yX3_clear, Cond.selects RX3 yX3_clear yX3_clear, Cond.initialized RX3, Cond.code yX3_clear cX3_clear 1 none, Cond.fieldLink RX3 18 "MajorityIndex$Votes" "size" "I", Cond.fieldLink RX3 22 "MajorityIndex$Votes" "lost" "I", Cond.fieldLink RX3 25 "MajorityIndex$Votes" "lessBy" "I", Cond.methodLink RX2 77 yX3_add, Cond.instanceMethod yX3_add, Cond.selects RX3 yX3_add yX3_add, Cond.code yX3_add cX3_add 4 none, Cond.fieldLink RX3 9 "MajorityIndex$Votes" "value" "[I", Cond.fieldLink RX3 15 "MajorityIndex$Votes" "number" "[I", Cond.methodLink RX2 81 yX2_joinNode, Cond.instanceMethod yX2_joinNode, Cond.selects RX2 yX2_joinNode yX2_joinNode, Cond.code yX2_joinNode cX2_joinNode 5 none, Cond.fieldLink RX2 25 "MajorityIndex$Tree" "size" "[I", Cond.fieldLink RX2 34 "MajorityIndex$Tree" "value" "[I", Cond.fieldLink RX2 37 "MajorityIndex$Tree" "number" "[I", Cond.fieldLink RX2 91 "MajorityIndex$Votes" "lost" "I"]
def wsX4_lost_r4 : List Cond := [Cond.fieldLink RX2 28 "MajorityIndex$Tree" "lossOf" "[I", Cond.methodLink RX2 88 yX3_cancel, Cond.instanceMethod yX3_cancel, Cond.selects RX3 yX3_cancel yX3_cancel, Cond.code yX3_cancel cX3_cancel 4 none, Cond.methodLink RX3 32 yX3_order, Cond.instanceMethod yX3_order, Cond.selects RX3 yX3_order yX3_order, Cond.code yX3_order cX3_order 3 none, Cond.methodLink RX3 35 yX3_isAhead, Cond.instanceMethod yX3_isAhead, Cond.selects RX3 yX3_isAhead yX3_isAhead, Cond.code yX3_isAhead cX3_isAhead 3 (some .boolean), Cond.methodLink RX3 39 yX3_exchange, Cond.instanceMethod yX3_exchange, Cond.selects RX3 yX3_exchange yX3_exchange, Cond.code yX3_exchange cX3_exchange 5 none, Cond.methodLink RX2 64 yX2_isJoined, Cond.instanceMethod yX2_isJoined, Cond.selects RX2 yX2_isJoined yX2_isJoined, Cond.code yX2_isJoined cX2_isJoined 4 (some .boolean), Cond.fieldLink RX2 94 "MajorityIndex$Votes" "size" "I", Cond.fieldLink RX2 96 "MajorityIndex$Votes" "value" "[I", Cond.fieldLink RX2 97 "MajorityIndex$Votes" "number" "[I"]
def wsX4_lost_r5 : List Cond := [Cond.methodLink RX2 68 yX2_keepJoined, Cond.instanceMethod yX2_keepJoined, Cond.selects RX2 yX2_keepJoined yX2_keepJoined, Cond.code yX2_keepJoined cX2_keepJoined 4 none, Cond.methodLink RX2 98 Lib.Math.min.name, Cond.static Lib.Math.min.name, Cond.initialized "java/lang/Math", Cond.code Lib.Math.min.name Lib.Math.min.code 2 (some .int), Cond.fieldLink RX2 31 "MajorityIndex$Tree" "lessBy" "[I", Cond.fieldLink RX2 104 "MajorityIndex$Votes" "lessBy" "I", Cond.methodLink RX4 170 yX2_gather, Cond.instanceMethod yX2_gather, Cond.selects RX2 yX2_gather yX2_gather, Cond.code yX2_gather cX2_gather 6 none, Cond.methodLink RX2 106 yX2_isPart, Cond.instanceMethod yX2_isPart, Cond.selects RX2 yX2_isPart yX2_isPart, Cond.code yX2_isPart cX2_isPart 4 (some .boolean), Cond.methodLink RX4 113 yX0_oftenIn, Cond.instanceMethod yX0_oftenIn, Cond.selects RX0 yX0_oftenIn yX0_oftenIn, Cond.code yX0_oftenIn cX0_oftenIn 6 (some .int), Cond.fieldLink RX0 9 "MajorityIndex$Row" "cell" "[I", Cond.methodLink RX4 183 yX3_numberOf]
def wsX4_lost_r6 : List Cond := [Cond.instanceMethod yX3_numberOf, Cond.selects RX3 yX3_numberOf yX3_numberOf, Cond.code yX3_numberOf cX3_numberOf 3 (some .int)]
def wsX4_lost : List Cond := .code yX4_lost cX4_lost 4 (some .int) :: ((wsX4_lost_r1 ++ (wsX4_lost_r2 ++ (wsX4_lost_r3 ++ (wsX4_lost_r4 ++ (wsX4_lost_r5 ++ wsX4_lost_r6))))) ++ wsX40 ++ wsX00 ++ wsX20 ++ wsX30)
def wsX4_surely_r1 : List Cond := [Cond.fieldLink RX4 12 "MajorityIndex" "row" "LMajorityIndex$Row;", Cond.constant RX4 102 (-40000), Cond.fieldLink RX4 35 "MajorityIndex" "votes" "LMajorityIndex$Votes;", Cond.fieldLink RX4 174 "MajorityIndex$Votes" "size" "I", Cond.fieldLink RX4 136 "MajorityIndex$Votes" "number" "[I", Cond.fieldLink RX4 180 "MajorityIndex$Votes" "lost" "I", Cond.fieldLink RX4 133 "MajorityIndex$Votes" "value" "[I", Cond.methodLink RX4 79 yX0_hasRange, Cond.instanceMethod yX0_hasRange, Cond.selects RX0 yX0_hasRange yX0_hasRange, Cond.initialized RX0, Cond.code yX0_hasRange cX0_hasRange 3 (some .boolean), Cond.fieldLink RX0 15 "MajorityIndex$Row" "length" "I", Cond.methodLink RX4 71 yX4_laidTree, Cond.instanceMethod yX4_laidTree, Cond.selects RX4 yX4_laidTree yX4_laidTree, Cond.initialized RX4, Cond.code yX4_laidTree cX4_laidTree 1 (some (.object "MajorityIndex$Tree")), Cond.fieldLink RX4 53 "MajorityIndex" "treeIsOld" "Z", Cond.fieldLink RX4 21 "MajorityIndex" "tree" "LMajorityIndex$Tree;", Cond.fieldLink RX4 49 "MajorityIndex" "slotsNow" "I", Cond.fieldLink RX4 204 "MajorityIndex$Tree" "slotsHere" "I", Cond.fieldLink RX4 57 "MajorityIndex$Row" "length" "I", Cond.methodLink RX4 259 yX2_layRanges]
def wsX4_surely_r2 : List Cond := [Cond.instanceMethod yX2_layRanges, Cond.selects RX2 yX2_layRanges yX2_layRanges, Cond.initialized RX2, Cond.code yX2_layRanges cX2_layRanges 2 none, Cond.fieldLink RX2 40 "MajorityIndex$Tree" "row" "LMajorityIndex$Row;", Cond.fieldLink RX2 44 "MajorityIndex$Row" "length" "I", Cond.fieldLink RX2 50 "MajorityIndex$Tree" "nodes" "I", Cond.fieldLink RX2 18 "MajorityIndex$Tree" "from" "[I", Cond.fieldLink RX2 22 "MajorityIndex$Tree" "to" "[I", Cond.methodLink RX2 53 yX2_layBelow, Cond.instanceMethod yX2_layBelow, Cond.selects RX2 yX2_layBelow yX2_layBelow, Cond.code yX2_layBelow cX2_layBelow 4 none, Cond.methodLink RX2 57 yX2_rightBelow, Cond.instanceMethod yX2_rightBelow, Cond.selects RX2 yX2_rightBelow yX2_rightBelow, Cond.code yX2_rightBelow cX2_rightBelow 3 (some .int), Cond.methodLink RX4 87 yX2_renew, Cond.instanceMethod yX2_renew, Cond.selects RX2 yX2_renew yX2_renew, Cond.code yX2_renew cX2_renew 5 (some .int), Cond.methodLink RX2 61 yX2_putTogether, Cond.instanceMethod yX2_putTogether, Cond.selects RX2 yX2_putTogether yX2_putTogether]
def wsX4_surely_r3 : List Cond := [Cond.code yX2_putTogether cX2_putTogether 2 none, Cond.fieldLink RX2 12 "MajorityIndex$Tree" "joined" "LMajorityIndex$Votes;", Cond.fieldLink RX2 74 "MajorityIndex$Row" "cell" "[I", Cond.fieldLink RX2 85 "MajorityIndex$Tree" "slotsHere" "I", Cond.methodLink RX2 71 yX3_clear, Cond.instanceMethod yX3_clear, Cond.selects RX3 yX3_clear yX3_clear, Cond.initialized RX3, Cond.code yX3_clear cX3_clear 1 none, Cond.fieldLink RX3 18 "MajorityIndex$Votes" "size" "I", Cond.fieldLink RX3 22 "MajorityIndex$Votes" "lost" "I", Cond.fieldLink RX3 25 "MajorityIndex$Votes" "lessBy" "I", Cond.methodLink RX2 77 yX3_add, Cond.instanceMethod yX3_add, Cond.selects RX3 yX3_add yX3_add, Cond.code yX3_add cX3_add 4 none, Cond.fieldLink RX3 9 "MajorityIndex$Votes" "value" "[I", Cond.fieldLink RX3 15 "MajorityIndex$Votes" "number" "[I", Cond.methodLink RX2 81 yX2_joinNode, Cond.instanceMethod yX2_joinNode, Cond.selects RX2 yX2_joinNode yX2_joinNode, Cond.code yX2_joinNode cX2_joinNode 5 none, Cond.fieldLink RX2 25 "MajorityIndex$Tree" "size" "[I", Cond.fieldLink RX2 34 "MajorityIndex$Tree" "value" "[I"]
def wsX4_surely_r4 : List Cond := [Cond.fieldLink RX2 37 "MajorityIndex$Tree" "number" "[I", Cond.fieldLink RX2 91 "MajorityIndex$Votes" "lost" "I", Cond.fieldLink RX2 28 "MajorityIndex$Tree" "lossOf" "[I", Cond.methodLink RX2 88 yX3_cancel, Cond.instanceMethod yX3_cancel, Cond.selects RX3 yX3_cancel yX3_cancel, Cond.code yX3_cancel cX3_cancel 4 none, Cond.methodLink RX3 32 yX3_order, Cond.instanceMethod yX3_order, Cond.selects RX3 yX3_order yX3_order, Cond.code yX3_order cX3_order 3 none, Cond.methodLink RX3 35 yX3_isAhead, Cond.instanceMethod yX3_isAhead, Cond.selects RX3 yX3_isAhead yX3_isAhead, Cond.code yX3_isAhead cX3_isAhead 3 (some .boolean), Cond.methodLink RX3 39 yX3_exchange, Cond.instanceMethod yX3_exchange, Cond.selects RX3 yX3_exchange yX3_exchange, Cond.code yX3_exchange cX3_exchange 5 none, Cond.methodLink RX2 64 yX2_isJoined, Cond.instanceMethod yX2_isJoined, Cond.selects RX2 yX2_isJoined yX2_isJoined, Cond.code yX2_isJoined cX2_isJoined 4 (some .boolean), Cond.fieldLink RX2 94 "MajorityIndex$Votes" "size" "I"]
def wsX4_surely_r5 : List Cond := [Cond.fieldLink RX2 96 "MajorityIndex$Votes" "value" "[I", Cond.fieldLink RX2 97 "MajorityIndex$Votes" "number" "[I", Cond.methodLink RX2 68 yX2_keepJoined, Cond.instanceMethod yX2_keepJoined, Cond.selects RX2 yX2_keepJoined yX2_keepJoined, Cond.code yX2_keepJoined cX2_keepJoined 4 none, Cond.methodLink RX2 98 Lib.Math.min.name, Cond.static Lib.Math.min.name, Cond.initialized "java/lang/Math", Cond.code Lib.Math.min.name Lib.Math.min.code 2 (some .int), Cond.fieldLink RX2 31 "MajorityIndex$Tree" "lessBy" "[I", Cond.fieldLink RX2 104 "MajorityIndex$Votes" "lessBy" "I", Cond.methodLink RX4 170 yX2_gather, Cond.instanceMethod yX2_gather, Cond.selects RX2 yX2_gather yX2_gather, Cond.code yX2_gather cX2_gather 6 none, Cond.methodLink RX2 106 yX2_isPart, Cond.instanceMethod yX2_isPart, Cond.selects RX2 yX2_isPart yX2_isPart, Cond.code yX2_isPart cX2_isPart 4 (some .boolean)]
def wsX4_surely : List Cond := .code yX4_surely cX4_surely 4 (some .int) :: ((wsX4_surely_r1 ++ (wsX4_surely_r2 ++ (wsX4_surely_r3 ++ (wsX4_surely_r4 ++ wsX4_surely_r5)))) ++ wsX40 ++ wsX30 ++ wsX00 ++ wsX20)
def wsX4_isEnough : List Cond := .code yX4_isEnough cX4_isEnough 3 (some .boolean) :: ([.fieldLink RX4 49 "MajorityIndex" "slotsNow" "I"] ++ wsX40)
def wsX4_gatherHeavy_r1 : List Cond := [Cond.fieldLink RX4 35 "MajorityIndex" "votes" "LMajorityIndex$Votes;", Cond.fieldLink RX4 174 "MajorityIndex$Votes" "size" "I", Cond.fieldLink RX4 136 "MajorityIndex$Votes" "number" "[I", Cond.fieldLink RX4 12 "MajorityIndex" "row" "LMajorityIndex$Row;", Cond.fieldLink RX4 133 "MajorityIndex$Votes" "value" "[I", Cond.methodLink RX4 170 yX2_gather, Cond.instanceMethod yX2_gather, Cond.selects RX2 yX2_gather yX2_gather, Cond.initialized RX2, Cond.code yX2_gather cX2_gather 6 none, Cond.fieldLink RX2 50 "MajorityIndex$Tree" "nodes" "I", Cond.fieldLink RX2 22 "MajorityIndex$Tree" "to" "[I", Cond.fieldLink RX2 85 "MajorityIndex$Tree" "slotsHere" "I", Cond.methodLink RX2 71 yX3_clear, Cond.instanceMethod yX3_clear, Cond.selects RX3 yX3_clear yX3_clear, Cond.initialized RX3, Cond.code yX3_clear cX3_clear 1 none, Cond.fieldLink RX3 18 "MajorityIndex$Votes" "size" "I", Cond.fieldLink RX3 22 "MajorityIndex$Votes" "lost" "I", Cond.fieldLink RX3 25 "MajorityIndex$Votes" "lessBy" "I", Cond.methodLink RX2 106 yX2_isPart, Cond.instanceMethod yX2_isPart, Cond.selects RX2 yX2_isPart yX2_isPart]
def wsX4_gatherHeavy_r2 : List Cond := [Cond.code yX2_isPart cX2_isPart 4 (some .boolean), Cond.fieldLink RX2 18 "MajorityIndex$Tree" "from" "[I", Cond.methodLink RX2 81 yX2_joinNode, Cond.instanceMethod yX2_joinNode, Cond.selects RX2 yX2_joinNode yX2_joinNode, Cond.code yX2_joinNode cX2_joinNode 5 none, Cond.fieldLink RX2 25 "MajorityIndex$Tree" "size" "[I", Cond.fieldLink RX2 34 "MajorityIndex$Tree" "value" "[I", Cond.fieldLink RX2 37 "MajorityIndex$Tree" "number" "[I", Cond.fieldLink RX2 91 "MajorityIndex$Votes" "lost" "I", Cond.fieldLink RX2 28 "MajorityIndex$Tree" "lossOf" "[I", Cond.methodLink RX2 77 yX3_add, Cond.instanceMethod yX3_add, Cond.selects RX3 yX3_add yX3_add, Cond.code yX3_add cX3_add 4 none, Cond.fieldLink RX3 9 "MajorityIndex$Votes" "value" "[I", Cond.fieldLink RX3 15 "MajorityIndex$Votes" "number" "[I", Cond.methodLink RX2 88 yX3_cancel, Cond.instanceMethod yX3_cancel, Cond.selects RX3 yX3_cancel yX3_cancel, Cond.code yX3_cancel cX3_cancel 4 none, Cond.methodLink RX3 32 yX3_order, Cond.instanceMethod yX3_order, Cond.selects RX3 yX3_order yX3_order]
def wsX4_gatherHeavy_r3 : List Cond := [Cond.code yX3_order cX3_order 3 none, Cond.methodLink RX3 35 yX3_isAhead, Cond.instanceMethod yX3_isAhead, Cond.selects RX3 yX3_isAhead yX3_isAhead, Cond.code yX3_isAhead cX3_isAhead 3 (some .boolean), Cond.methodLink RX3 39 yX3_exchange, Cond.instanceMethod yX3_exchange, Cond.selects RX3 yX3_exchange yX3_exchange, Cond.code yX3_exchange cX3_exchange 5 none, Cond.methodLink RX4 113 yX0_oftenIn, Cond.instanceMethod yX0_oftenIn, Cond.selects RX0 yX0_oftenIn yX0_oftenIn, Cond.initialized RX0, Cond.code yX0_oftenIn cX0_oftenIn 6 (some .int), Cond.fieldLink RX0 9 "MajorityIndex$Row" "cell" "[I", Cond.methodLink RX4 262 yX3_keepHeavy, Cond.instanceMethod yX3_keepHeavy, Cond.selects RX3 yX3_keepHeavy yX3_keepHeavy, Cond.code yX3_keepHeavy cX3_keepHeavy 6 none, Cond.static yX4_isHeavy, Cond.initialized RX4, Cond.code yX4_isHeavy cX4_isHeavy 4 (some .boolean)]
def wsX4_gatherHeavy : List Cond := .code yX4_gatherHeavy cX4_gatherHeavy 7 none :: ((wsX4_gatherHeavy_r1 ++ (wsX4_gatherHeavy_r2 ++ wsX4_gatherHeavy_r3)) ++ wsX40 ++ wsX30 ++ wsX20 ++ wsX00)
def wsX4_heavy_r1 : List Cond := [Cond.fieldLink RX4 12 "MajorityIndex" "row" "LMajorityIndex$Row;", Cond.fieldLink RX4 35 "MajorityIndex" "votes" "LMajorityIndex$Votes;", Cond.fieldLink RX4 174 "MajorityIndex$Votes" "size" "I", Cond.methodLink RX4 79 yX0_hasRange, Cond.instanceMethod yX0_hasRange, Cond.selects RX0 yX0_hasRange yX0_hasRange, Cond.initialized RX0, Cond.code yX0_hasRange cX0_hasRange 3 (some .boolean), Cond.fieldLink RX0 15 "MajorityIndex$Row" "length" "I", Cond.methodLink RX4 186 yX4_isShare, Cond.static yX4_isShare, Cond.initialized RX4, Cond.code yX4_isShare cX4_isShare 2 (some .boolean), Cond.methodLink RX4 189 yX4_isEnough, Cond.instanceMethod yX4_isEnough, Cond.selects RX4 yX4_isEnough yX4_isEnough, Cond.code yX4_isEnough cX4_isEnough 3 (some .boolean), Cond.fieldLink RX4 49 "MajorityIndex" "slotsNow" "I", Cond.methodLink RX4 71 yX4_laidTree, Cond.instanceMethod yX4_laidTree, Cond.selects RX4 yX4_laidTree yX4_laidTree, Cond.code yX4_laidTree cX4_laidTree 1 (some (.object "MajorityIndex$Tree")), Cond.fieldLink RX4 53 "MajorityIndex" "treeIsOld" "Z", Cond.fieldLink RX4 21 "MajorityIndex" "tree" "LMajorityIndex$Tree;"]
def wsX4_heavy_r2 : List Cond := [Cond.fieldLink RX4 204 "MajorityIndex$Tree" "slotsHere" "I", Cond.fieldLink RX4 57 "MajorityIndex$Row" "length" "I", Cond.methodLink RX4 259 yX2_layRanges, Cond.instanceMethod yX2_layRanges, Cond.selects RX2 yX2_layRanges yX2_layRanges, Cond.initialized RX2, Cond.code yX2_layRanges cX2_layRanges 2 none, Cond.fieldLink RX2 40 "MajorityIndex$Tree" "row" "LMajorityIndex$Row;", Cond.fieldLink RX2 44 "MajorityIndex$Row" "length" "I", Cond.fieldLink RX2 50 "MajorityIndex$Tree" "nodes" "I", Cond.fieldLink RX2 18 "MajorityIndex$Tree" "from" "[I", Cond.fieldLink RX2 22 "MajorityIndex$Tree" "to" "[I", Cond.methodLink RX2 53 yX2_layBelow, Cond.instanceMethod yX2_layBelow, Cond.selects RX2 yX2_layBelow yX2_layBelow, Cond.code yX2_layBelow cX2_layBelow 4 none, Cond.methodLink RX2 57 yX2_rightBelow, Cond.instanceMethod yX2_rightBelow, Cond.selects RX2 yX2_rightBelow yX2_rightBelow, Cond.code yX2_rightBelow cX2_rightBelow 3 (some .int), Cond.methodLink RX4 87 yX2_renew, Cond.instanceMethod yX2_renew, Cond.selects RX2 yX2_renew yX2_renew, Cond.code yX2_renew cX2_renew 5 (some .int)]
def wsX4_heavy_r3 : List Cond := [Cond.methodLink RX2 61 yX2_putTogether, Cond.instanceMethod yX2_putTogether, Cond.selects RX2 yX2_putTogether yX2_putTogether, Cond.code yX2_putTogether cX2_putTogether 2 none, Cond.fieldLink RX2 12 "MajorityIndex$Tree" "joined" "LMajorityIndex$Votes;", Cond.fieldLink RX2 74 "MajorityIndex$Row" "cell" "[I", Cond.fieldLink RX2 85 "MajorityIndex$Tree" "slotsHere" "I", Cond.methodLink RX2 71 yX3_clear, Cond.instanceMethod yX3_clear, Cond.selects RX3 yX3_clear yX3_clear, Cond.initialized RX3, Cond.code yX3_clear cX3_clear 1 none, Cond.fieldLink RX3 18 "MajorityIndex$Votes" "size" "I", Cond.fieldLink RX3 22 "MajorityIndex$Votes" "lost" "I", Cond.fieldLink RX3 25 "MajorityIndex$Votes" "lessBy" "I", Cond.methodLink RX2 77 yX3_add, Cond.instanceMethod yX3_add, Cond.selects RX3 yX3_add yX3_add, Cond.code yX3_add cX3_add 4 none, Cond.fieldLink RX3 9 "MajorityIndex$Votes" "value" "[I", Cond.fieldLink RX3 15 "MajorityIndex$Votes" "number" "[I", Cond.methodLink RX2 81 yX2_joinNode, Cond.instanceMethod yX2_joinNode, Cond.selects RX2 yX2_joinNode yX2_joinNode]
def wsX4_heavy_r4 : List Cond := [Cond.code yX2_joinNode cX2_joinNode 5 none, Cond.fieldLink RX2 25 "MajorityIndex$Tree" "size" "[I", Cond.fieldLink RX2 34 "MajorityIndex$Tree" "value" "[I", Cond.fieldLink RX2 37 "MajorityIndex$Tree" "number" "[I", Cond.fieldLink RX2 91 "MajorityIndex$Votes" "lost" "I", Cond.fieldLink RX2 28 "MajorityIndex$Tree" "lossOf" "[I", Cond.methodLink RX2 88 yX3_cancel, Cond.instanceMethod yX3_cancel, Cond.selects RX3 yX3_cancel yX3_cancel, Cond.code yX3_cancel cX3_cancel 4 none, Cond.methodLink RX3 32 yX3_order, Cond.instanceMethod yX3_order, Cond.selects RX3 yX3_order yX3_order, Cond.code yX3_order cX3_order 3 none, Cond.methodLink RX3 35 yX3_isAhead, Cond.instanceMethod yX3_isAhead, Cond.selects RX3 yX3_isAhead yX3_isAhead, Cond.code yX3_isAhead cX3_isAhead 3 (some .boolean), Cond.methodLink RX3 39 yX3_exchange, Cond.instanceMethod yX3_exchange, Cond.selects RX3 yX3_exchange yX3_exchange, Cond.code yX3_exchange cX3_exchange 5 none, Cond.methodLink RX2 64 yX2_isJoined, Cond.instanceMethod yX2_isJoined]
def wsX4_heavy_r5 : List Cond := [Cond.selects RX2 yX2_isJoined yX2_isJoined, Cond.code yX2_isJoined cX2_isJoined 4 (some .boolean), Cond.fieldLink RX2 94 "MajorityIndex$Votes" "size" "I", Cond.fieldLink RX2 96 "MajorityIndex$Votes" "value" "[I", Cond.fieldLink RX2 97 "MajorityIndex$Votes" "number" "[I", Cond.methodLink RX2 68 yX2_keepJoined, Cond.instanceMethod yX2_keepJoined, Cond.selects RX2 yX2_keepJoined yX2_keepJoined, Cond.code yX2_keepJoined cX2_keepJoined 4 none, Cond.methodLink RX2 98 Lib.Math.min.name, Cond.static Lib.Math.min.name, Cond.initialized "java/lang/Math", Cond.code Lib.Math.min.name Lib.Math.min.code 2 (some .int), Cond.fieldLink RX2 31 "MajorityIndex$Tree" "lessBy" "[I", Cond.fieldLink RX2 104 "MajorityIndex$Votes" "lessBy" "I", Cond.methodLink RX4 192 yX4_gatherHeavy, Cond.instanceMethod yX4_gatherHeavy, Cond.selects RX4 yX4_gatherHeavy yX4_gatherHeavy, Cond.code yX4_gatherHeavy cX4_gatherHeavy 7 none, Cond.fieldLink RX4 136 "MajorityIndex$Votes" "number" "[I", Cond.fieldLink RX4 133 "MajorityIndex$Votes" "value" "[I", Cond.methodLink RX4 170 yX2_gather, Cond.instanceMethod yX2_gather, Cond.selects RX2 yX2_gather yX2_gather]
def wsX4_heavy_r6 : List Cond := [Cond.code yX2_gather cX2_gather 6 none, Cond.methodLink RX2 106 yX2_isPart, Cond.instanceMethod yX2_isPart, Cond.selects RX2 yX2_isPart yX2_isPart, Cond.code yX2_isPart cX2_isPart 4 (some .boolean), Cond.methodLink RX4 113 yX0_oftenIn, Cond.instanceMethod yX0_oftenIn, Cond.selects RX0 yX0_oftenIn yX0_oftenIn, Cond.code yX0_oftenIn cX0_oftenIn 6 (some .int), Cond.fieldLink RX0 9 "MajorityIndex$Row" "cell" "[I", Cond.methodLink RX4 262 yX3_keepHeavy, Cond.instanceMethod yX3_keepHeavy, Cond.selects RX3 yX3_keepHeavy yX3_keepHeavy, Cond.code yX3_keepHeavy cX3_keepHeavy 6 none, Cond.static yX4_isHeavy, Cond.code yX4_isHeavy cX4_isHeavy 4 (some .boolean)]
def wsX4_heavy : List Cond := .code yX4_heavy cX4_heavy 5 (some .int) :: ((wsX4_heavy_r1 ++ (wsX4_heavy_r2 ++ (wsX4_heavy_r3 ++ (wsX4_heavy_r4 ++ (wsX4_heavy_r5 ++ wsX4_heavy_r6))))) ++ wsX40 ++ wsX30 ++ wsX00 ++ wsX20)
def wsX4_failed_r1 : List Cond := [Cond.fieldLink RX4 12 "MajorityIndex" "row" "LMajorityIndex$Row;", Cond.fieldLink RX4 35 "MajorityIndex" "votes" "LMajorityIndex$Votes;", Cond.fieldLink RX4 174 "MajorityIndex$Votes" "size" "I", Cond.methodLink RX4 79 yX0_hasRange, Cond.instanceMethod yX0_hasRange, Cond.selects RX0 yX0_hasRange yX0_hasRange, Cond.initialized RX0, Cond.code yX0_hasRange cX0_hasRange 3 (some .boolean), Cond.fieldLink RX0 15 "MajorityIndex$Row" "length" "I", Cond.methodLink RX4 186 yX4_isShare, Cond.static yX4_isShare, Cond.initialized RX4, Cond.code yX4_isShare cX4_isShare 2 (some .boolean), Cond.methodLink RX4 189 yX4_isEnough, Cond.instanceMethod yX4_isEnough, Cond.selects RX4 yX4_isEnough yX4_isEnough, Cond.code yX4_isEnough cX4_isEnough 3 (some .boolean), Cond.fieldLink RX4 49 "MajorityIndex" "slotsNow" "I", Cond.methodLink RX4 71 yX4_laidTree, Cond.instanceMethod yX4_laidTree, Cond.selects RX4 yX4_laidTree yX4_laidTree, Cond.code yX4_laidTree cX4_laidTree 1 (some (.object "MajorityIndex$Tree")), Cond.fieldLink RX4 53 "MajorityIndex" "treeIsOld" "Z", Cond.fieldLink RX4 21 "MajorityIndex" "tree" "LMajorityIndex$Tree;"]
def wsX4_failed_r2 : List Cond := [Cond.fieldLink RX4 204 "MajorityIndex$Tree" "slotsHere" "I", Cond.fieldLink RX4 57 "MajorityIndex$Row" "length" "I", Cond.methodLink RX4 259 yX2_layRanges, Cond.instanceMethod yX2_layRanges, Cond.selects RX2 yX2_layRanges yX2_layRanges, Cond.initialized RX2, Cond.code yX2_layRanges cX2_layRanges 2 none, Cond.fieldLink RX2 40 "MajorityIndex$Tree" "row" "LMajorityIndex$Row;", Cond.fieldLink RX2 44 "MajorityIndex$Row" "length" "I", Cond.fieldLink RX2 50 "MajorityIndex$Tree" "nodes" "I", Cond.fieldLink RX2 18 "MajorityIndex$Tree" "from" "[I", Cond.fieldLink RX2 22 "MajorityIndex$Tree" "to" "[I", Cond.methodLink RX2 53 yX2_layBelow, Cond.instanceMethod yX2_layBelow, Cond.selects RX2 yX2_layBelow yX2_layBelow, Cond.code yX2_layBelow cX2_layBelow 4 none, Cond.methodLink RX2 57 yX2_rightBelow, Cond.instanceMethod yX2_rightBelow, Cond.selects RX2 yX2_rightBelow yX2_rightBelow, Cond.code yX2_rightBelow cX2_rightBelow 3 (some .int), Cond.methodLink RX4 87 yX2_renew, Cond.instanceMethod yX2_renew, Cond.selects RX2 yX2_renew yX2_renew, Cond.code yX2_renew cX2_renew 5 (some .int)]
def wsX4_failed_r3 : List Cond := [Cond.methodLink RX2 61 yX2_putTogether, Cond.instanceMethod yX2_putTogether, Cond.selects RX2 yX2_putTogether yX2_putTogether, Cond.code yX2_putTogether cX2_putTogether 2 none, Cond.fieldLink RX2 12 "MajorityIndex$Tree" "joined" "LMajorityIndex$Votes;", Cond.fieldLink RX2 74 "MajorityIndex$Row" "cell" "[I", Cond.fieldLink RX2 85 "MajorityIndex$Tree" "slotsHere" "I", Cond.methodLink RX2 71 yX3_clear, Cond.instanceMethod yX3_clear, Cond.selects RX3 yX3_clear yX3_clear, Cond.initialized RX3, Cond.code yX3_clear cX3_clear 1 none, Cond.fieldLink RX3 18 "MajorityIndex$Votes" "size" "I", Cond.fieldLink RX3 22 "MajorityIndex$Votes" "lost" "I", Cond.fieldLink RX3 25 "MajorityIndex$Votes" "lessBy" "I", Cond.methodLink RX2 77 yX3_add, Cond.instanceMethod yX3_add, Cond.selects RX3 yX3_add yX3_add, Cond.code yX3_add cX3_add 4 none, Cond.fieldLink RX3 9 "MajorityIndex$Votes" "value" "[I", Cond.fieldLink RX3 15 "MajorityIndex$Votes" "number" "[I", Cond.methodLink RX2 81 yX2_joinNode, Cond.instanceMethod yX2_joinNode, Cond.selects RX2 yX2_joinNode yX2_joinNode]
def wsX4_failed_r4 : List Cond := [Cond.code yX2_joinNode cX2_joinNode 5 none, Cond.fieldLink RX2 25 "MajorityIndex$Tree" "size" "[I", Cond.fieldLink RX2 34 "MajorityIndex$Tree" "value" "[I", Cond.fieldLink RX2 37 "MajorityIndex$Tree" "number" "[I", Cond.fieldLink RX2 91 "MajorityIndex$Votes" "lost" "I", Cond.fieldLink RX2 28 "MajorityIndex$Tree" "lossOf" "[I", Cond.methodLink RX2 88 yX3_cancel, Cond.instanceMethod yX3_cancel, Cond.selects RX3 yX3_cancel yX3_cancel, Cond.code yX3_cancel cX3_cancel 4 none, Cond.methodLink RX3 32 yX3_order, Cond.instanceMethod yX3_order, Cond.selects RX3 yX3_order yX3_order, Cond.code yX3_order cX3_order 3 none, Cond.methodLink RX3 35 yX3_isAhead, Cond.instanceMethod yX3_isAhead, Cond.selects RX3 yX3_isAhead yX3_isAhead, Cond.code yX3_isAhead cX3_isAhead 3 (some .boolean), Cond.methodLink RX3 39 yX3_exchange, Cond.instanceMethod yX3_exchange, Cond.selects RX3 yX3_exchange yX3_exchange, Cond.code yX3_exchange cX3_exchange 5 none, Cond.methodLink RX2 64 yX2_isJoined, Cond.instanceMethod yX2_isJoined]
def wsX4_failed_r5 : List Cond := [Cond.selects RX2 yX2_isJoined yX2_isJoined, Cond.code yX2_isJoined cX2_isJoined 4 (some .boolean), Cond.fieldLink RX2 94 "MajorityIndex$Votes" "size" "I", Cond.fieldLink RX2 96 "MajorityIndex$Votes" "value" "[I", Cond.fieldLink RX2 97 "MajorityIndex$Votes" "number" "[I", Cond.methodLink RX2 68 yX2_keepJoined, Cond.instanceMethod yX2_keepJoined, Cond.selects RX2 yX2_keepJoined yX2_keepJoined, Cond.code yX2_keepJoined cX2_keepJoined 4 none, Cond.methodLink RX2 98 Lib.Math.min.name, Cond.static Lib.Math.min.name, Cond.initialized "java/lang/Math", Cond.code Lib.Math.min.name Lib.Math.min.code 2 (some .int), Cond.fieldLink RX2 31 "MajorityIndex$Tree" "lessBy" "[I", Cond.fieldLink RX2 104 "MajorityIndex$Votes" "lessBy" "I", Cond.methodLink RX4 170 yX2_gather, Cond.instanceMethod yX2_gather, Cond.selects RX2 yX2_gather yX2_gather, Cond.code yX2_gather cX2_gather 6 none, Cond.methodLink RX2 106 yX2_isPart, Cond.instanceMethod yX2_isPart, Cond.selects RX2 yX2_isPart yX2_isPart, Cond.code yX2_isPart cX2_isPart 4 (some .boolean), Cond.methodLink RX4 192 yX4_gatherHeavy]
def wsX4_failed_r6 : List Cond := [Cond.instanceMethod yX4_gatherHeavy, Cond.selects RX4 yX4_gatherHeavy yX4_gatherHeavy, Cond.code yX4_gatherHeavy cX4_gatherHeavy 7 none, Cond.fieldLink RX4 136 "MajorityIndex$Votes" "number" "[I", Cond.fieldLink RX4 133 "MajorityIndex$Votes" "value" "[I", Cond.methodLink RX4 113 yX0_oftenIn, Cond.instanceMethod yX0_oftenIn, Cond.selects RX0 yX0_oftenIn yX0_oftenIn, Cond.code yX0_oftenIn cX0_oftenIn 6 (some .int), Cond.fieldLink RX0 9 "MajorityIndex$Row" "cell" "[I", Cond.methodLink RX4 262 yX3_keepHeavy, Cond.instanceMethod yX3_keepHeavy, Cond.selects RX3 yX3_keepHeavy yX3_keepHeavy, Cond.code yX3_keepHeavy cX3_keepHeavy 6 none, Cond.static yX4_isHeavy, Cond.code yX4_isHeavy cX4_isHeavy 4 (some .boolean)]
def wsX4_failed : List Cond := .code yX4_failed cX4_failed 7 (some .int) :: ((wsX4_failed_r1 ++ (wsX4_failed_r2 ++ (wsX4_failed_r3 ++ (wsX4_failed_r4 ++ (wsX4_failed_r5 ++ wsX4_failed_r6))))) ++ wsX40 ++ wsX30 ++ wsX00 ++ wsX20)
set_option maxRecDepth 20000 in
theorem ggX4_node_X0_hasRange : GoodIn wsX4_node wsX0_hasRange := goodIn_r _ [7, 8, 128, 129] rfl (by decide +kernel)
set_option maxRecDepth 20000 in
theorem gX4_node_X0_hasRange : GoodIn wsX4_node (wsV RX4 79 RX0 yX0_hasRange wsX0_hasRange) := goodIn_app (goodIn_of _ (by decide +kernel)) ggX4_node_X0_hasRange
set_option maxRecDepth 20000 in
theorem ggX4_node_X4_laidTree : GoodIn wsX4_node wsX4_laidTree := goodIn_r _ [13, 14, 15, 16, 17, 1, 18, 19, 20, 21, 22, 23, 24, 25, 26, 27, 28, 29, 30, 31, 32, 33, 34, 35, 36, 37, 38, 39, 40, 41, 42, 43, 44, 45, 46, 47, 48, 49, 50, 51, 52, 53, 54, 55, 56, 57, 58, 59, 60, 61, 62, 63, 64, 65, 66, 67, 68, 69, 70, 71, 72, 73, 74, 75, 76, 77, 78, 79, 80, 81, 82, 83, 84, 85, 86, 87, 88, 89, 90, 91, 92, 93, 94, 95, 96, 97, 98, 99, 100, 101, 102, 103, 108, 109, 110, 111, 112, 113, 114, 115, 116, 117, 118, 119, 120, 121, 122, 123, 124, 125, 126, 127, 128, 129, 130, 131, 132, 133, 134] rfl (by decide +kernel)
set_option maxRecDepth 20000 in
theorem gX4_node_X4_laidTree : GoodIn wsX4_node (wsV RX4 71 RX4 yX4_laidTree wsX4_laidTree) := goodIn_app (goodIn_of _ (by decide +kernel)) ggX4_node_X4_laidTree
set_option maxRecDepth 20000 in
theorem ggX4_node_X2_find : GoodIn wsX4_node wsX2_find := goodIn_r _ [107, 26, 27, 28, 117, 118, 119, 120, 121, 122, 123, 124, 125, 126, 127] rfl (by decide +kernel)
set_option maxRecDepth 20000 in
theorem gX4_node_X2_find : GoodIn wsX4_node (wsV RX4 123 RX2 yX2_find wsX2_find) := goodIn_app (goodIn_of _ (by decide +kernel)) ggX4_node_X2_find
theorem dX4_node_0 : decode cX4_node 0 = .ok (.aload_n 0, 1) := by decide +kernel
theorem dX4_node_1 : decode cX4_node 1 = .ok (.getfield 12, 3) := by decide +kernel
theorem dX4_node_4 : decode cX4_node 4 = .ok (.iload_n 1, 1) := by decide +kernel
theorem dX4_node_5 : decode cX4_node 5 = .ok (.iload_n 2, 1) := by decide +kernel
theorem dX4_node_6 : decode cX4_node 6 = .ok (.invokevirtual 79, 3) := by decide +kernel
theorem dX4_node_9 : decode cX4_node 9 = .ok (.ifCond .ne 5, 3) := by decide +kernel
theorem dX4_node_12 : decode cX4_node 12 = .ok (.iconst (-1), 1) := by decide +kernel
theorem dX4_node_13 : decode cX4_node 13 = .ok (.ireturn, 1) := by decide +kernel
theorem dX4_node_14 : decode cX4_node 14 = .ok (.aload_n 0, 1) := by decide +kernel
theorem dX4_node_15 : decode cX4_node 15 = .ok (.invokevirtual 71, 3) := by decide +kernel
theorem dX4_node_18 : decode cX4_node 18 = .ok (.astore_n 3, 1) := by decide +kernel
theorem dX4_node_19 : decode cX4_node 19 = .ok (.aload_n 3, 1) := by decide +kernel
theorem dX4_node_20 : decode cX4_node 20 = .ok (.iload_n 1, 1) := by decide +kernel
theorem dX4_node_21 : decode cX4_node 21 = .ok (.iload_n 2, 1) := by decide +kernel
theorem dX4_node_22 : decode cX4_node 22 = .ok (.invokevirtual 123, 3) := by decide +kernel
theorem dX4_node_25 : decode cX4_node 25 = .ok (.istore 4, 2) := by decide +kernel
theorem dX4_node_27 : decode cX4_node 27 = .ok (.iload 4, 2) := by decide +kernel
theorem dX4_node_29 : decode cX4_node 29 = .ok (.iconst (-1), 1) := by decide +kernel
theorem dX4_node_30 : decode cX4_node 30 = .ok (.if_icmp .ne 8, 3) := by decide +kernel
theorem dX4_node_33 : decode cX4_node 33 = .ok (.bipush (-2), 2) := by decide +kernel
theorem dX4_node_35 : decode cX4_node 35 = .ok (.goto 10, 3) := by decide +kernel
theorem dX4_node_38 : decode cX4_node 38 = .ok (.aload_n 3, 1) := by decide +kernel
theorem dX4_node_39 : decode cX4_node 39 = .ok (.getfield 126, 3) := by decide +kernel
theorem dX4_node_42 : decode cX4_node 42 = .ok (.iload 4, 2) := by decide +kernel
theorem dX4_node_44 : decode cX4_node 44 = .ok (.iaload, 1) := by decide +kernel
theorem dX4_node_45 : decode cX4_node 45 = .ok (.ireturn, 1) := by decide +kernel
set_option maxRecDepth 20000 in
theorem ggX4_loss_X0_hasRange : GoodIn wsX4_loss wsX0_hasRange := goodIn_r _ [7, 8, 128, 129] rfl (by decide +kernel)
set_option maxRecDepth 20000 in
theorem gX4_loss_X0_hasRange : GoodIn wsX4_loss (wsV RX4 79 RX0 yX0_hasRange wsX0_hasRange) := goodIn_app (goodIn_of _ (by decide +kernel)) ggX4_loss_X0_hasRange
set_option maxRecDepth 20000 in
theorem ggX4_loss_X4_laidTree : GoodIn wsX4_loss wsX4_laidTree := goodIn_r _ [13, 14, 15, 16, 17, 1, 18, 19, 20, 21, 22, 23, 24, 25, 26, 27, 28, 29, 30, 31, 32, 33, 34, 35, 36, 37, 38, 39, 40, 41, 42, 43, 44, 45, 46, 47, 48, 49, 50, 51, 52, 53, 54, 55, 56, 57, 58, 59, 60, 61, 62, 63, 64, 65, 66, 67, 68, 69, 70, 71, 72, 73, 74, 75, 76, 77, 78, 79, 80, 81, 82, 83, 84, 85, 86, 87, 88, 89, 90, 91, 92, 93, 94, 95, 96, 97, 98, 99, 100, 101, 102, 103, 108, 109, 110, 111, 112, 113, 114, 115, 116, 117, 118, 119, 120, 121, 122, 123, 124, 125, 126, 127, 128, 129, 130, 131, 132, 133, 134] rfl (by decide +kernel)
set_option maxRecDepth 20000 in
theorem gX4_loss_X4_laidTree : GoodIn wsX4_loss (wsV RX4 71 RX4 yX4_laidTree wsX4_laidTree) := goodIn_app (goodIn_of _ (by decide +kernel)) ggX4_loss_X4_laidTree
set_option maxRecDepth 20000 in
theorem ggX4_loss_X2_find : GoodIn wsX4_loss wsX2_find := goodIn_r _ [107, 26, 27, 28, 117, 118, 119, 120, 121, 122, 123, 124, 125, 126, 127] rfl (by decide +kernel)
set_option maxRecDepth 20000 in
theorem gX4_loss_X2_find : GoodIn wsX4_loss (wsV RX4 123 RX2 yX2_find wsX2_find) := goodIn_app (goodIn_of _ (by decide +kernel)) ggX4_loss_X2_find
theorem dX4_loss_0 : decode cX4_loss 0 = .ok (.aload_n 0, 1) := by decide +kernel
theorem dX4_loss_1 : decode cX4_loss 1 = .ok (.getfield 12, 3) := by decide +kernel
theorem dX4_loss_4 : decode cX4_loss 4 = .ok (.iload_n 1, 1) := by decide +kernel
theorem dX4_loss_5 : decode cX4_loss 5 = .ok (.iload_n 2, 1) := by decide +kernel
theorem dX4_loss_6 : decode cX4_loss 6 = .ok (.invokevirtual 79, 3) := by decide +kernel
theorem dX4_loss_9 : decode cX4_loss 9 = .ok (.ifCond .ne 5, 3) := by decide +kernel
theorem dX4_loss_12 : decode cX4_loss 12 = .ok (.iconst (-1), 1) := by decide +kernel
theorem dX4_loss_13 : decode cX4_loss 13 = .ok (.ireturn, 1) := by decide +kernel
theorem dX4_loss_14 : decode cX4_loss 14 = .ok (.aload_n 0, 1) := by decide +kernel
theorem dX4_loss_15 : decode cX4_loss 15 = .ok (.invokevirtual 71, 3) := by decide +kernel
theorem dX4_loss_18 : decode cX4_loss 18 = .ok (.astore_n 3, 1) := by decide +kernel
theorem dX4_loss_19 : decode cX4_loss 19 = .ok (.aload_n 3, 1) := by decide +kernel
theorem dX4_loss_20 : decode cX4_loss 20 = .ok (.iload_n 1, 1) := by decide +kernel
theorem dX4_loss_21 : decode cX4_loss 21 = .ok (.iload_n 2, 1) := by decide +kernel
theorem dX4_loss_22 : decode cX4_loss 22 = .ok (.invokevirtual 123, 3) := by decide +kernel
theorem dX4_loss_25 : decode cX4_loss 25 = .ok (.istore 4, 2) := by decide +kernel
theorem dX4_loss_27 : decode cX4_loss 27 = .ok (.iload 4, 2) := by decide +kernel
theorem dX4_loss_29 : decode cX4_loss 29 = .ok (.iconst (-1), 1) := by decide +kernel
theorem dX4_loss_30 : decode cX4_loss 30 = .ok (.if_icmp .ne 8, 3) := by decide +kernel
theorem dX4_loss_33 : decode cX4_loss 33 = .ok (.bipush (-2), 2) := by decide +kernel
theorem dX4_loss_35 : decode cX4_loss 35 = .ok (.goto 10, 3) := by decide +kernel
theorem dX4_loss_38 : decode cX4_loss 38 = .ok (.aload_n 3, 1) := by decide +kernel
theorem dX4_loss_39 : decode cX4_loss 39 = .ok (.getfield 139, 3) := by decide +kernel
theorem dX4_loss_42 : decode cX4_loss 42 = .ok (.iload 4, 2) := by decide +kernel
theorem dX4_loss_44 : decode cX4_loss 44 = .ok (.iaload, 1) := by decide +kernel
theorem dX4_loss_45 : decode cX4_loss 45 = .ok (.ireturn, 1) := by decide +kernel
set_option maxRecDepth 20000 in
theorem ggX4_cancelled_X0_hasRange : GoodIn wsX4_cancelled wsX0_hasRange := goodIn_r _ [7, 8, 128, 129] rfl (by decide +kernel)
set_option maxRecDepth 20000 in
theorem gX4_cancelled_X0_hasRange : GoodIn wsX4_cancelled (wsV RX4 79 RX0 yX0_hasRange wsX0_hasRange) := goodIn_app (goodIn_of _ (by decide +kernel)) ggX4_cancelled_X0_hasRange
set_option maxRecDepth 20000 in
theorem ggX4_cancelled_X4_laidTree : GoodIn wsX4_cancelled wsX4_laidTree := goodIn_r _ [13, 14, 15, 16, 17, 1, 18, 19, 20, 21, 22, 23, 24, 25, 26, 27, 28, 29, 30, 31, 32, 33, 34, 35, 36, 37, 38, 39, 40, 41, 42, 43, 44, 45, 46, 47, 48, 49, 50, 51, 52, 53, 54, 55, 56, 57, 58, 59, 60, 61, 62, 63, 64, 65, 66, 67, 68, 69, 70, 71, 72, 73, 74, 75, 76, 77, 78, 79, 80, 81, 82, 83, 84, 85, 86, 87, 88, 89, 90, 91, 92, 93, 94, 95, 96, 97, 98, 99, 100, 101, 102, 103, 108, 109, 110, 111, 112, 113, 114, 115, 116, 117, 118, 119, 120, 121, 122, 123, 124, 125, 126, 127, 128, 129, 130, 131, 132, 133, 134] rfl (by decide +kernel)
set_option maxRecDepth 20000 in
theorem gX4_cancelled_X4_laidTree : GoodIn wsX4_cancelled (wsV RX4 71 RX4 yX4_laidTree wsX4_laidTree) := goodIn_app (goodIn_of _ (by decide +kernel)) ggX4_cancelled_X4_laidTree
set_option maxRecDepth 20000 in
theorem ggX4_cancelled_X2_find : GoodIn wsX4_cancelled wsX2_find := goodIn_r _ [107, 26, 27, 28, 117, 118, 119, 120, 121, 122, 123, 124, 125, 126, 127] rfl (by decide +kernel)
set_option maxRecDepth 20000 in
theorem gX4_cancelled_X2_find : GoodIn wsX4_cancelled (wsV RX4 123 RX2 yX2_find wsX2_find) := goodIn_app (goodIn_of _ (by decide +kernel)) ggX4_cancelled_X2_find
theorem dX4_cancelled_0 : decode cX4_cancelled 0 = .ok (.aload_n 0, 1) := by decide +kernel
theorem dX4_cancelled_1 : decode cX4_cancelled 1 = .ok (.getfield 12, 3) := by decide +kernel
theorem dX4_cancelled_4 : decode cX4_cancelled 4 = .ok (.iload_n 1, 1) := by decide +kernel
theorem dX4_cancelled_5 : decode cX4_cancelled 5 = .ok (.iload_n 2, 1) := by decide +kernel
theorem dX4_cancelled_6 : decode cX4_cancelled 6 = .ok (.invokevirtual 79, 3) := by decide +kernel
theorem dX4_cancelled_9 : decode cX4_cancelled 9 = .ok (.ifCond .ne 5, 3) := by decide +kernel
theorem dX4_cancelled_12 : decode cX4_cancelled 12 = .ok (.iconst (-1), 1) := by decide +kernel
theorem dX4_cancelled_13 : decode cX4_cancelled 13 = .ok (.ireturn, 1) := by decide +kernel
theorem dX4_cancelled_14 : decode cX4_cancelled 14 = .ok (.aload_n 0, 1) := by decide +kernel
theorem dX4_cancelled_15 : decode cX4_cancelled 15 = .ok (.invokevirtual 71, 3) := by decide +kernel
theorem dX4_cancelled_18 : decode cX4_cancelled 18 = .ok (.astore_n 3, 1) := by decide +kernel
theorem dX4_cancelled_19 : decode cX4_cancelled 19 = .ok (.aload_n 3, 1) := by decide +kernel
theorem dX4_cancelled_20 : decode cX4_cancelled 20 = .ok (.iload_n 1, 1) := by decide +kernel
theorem dX4_cancelled_21 : decode cX4_cancelled 21 = .ok (.iload_n 2, 1) := by decide +kernel
theorem dX4_cancelled_22 : decode cX4_cancelled 22 = .ok (.invokevirtual 123, 3) := by decide +kernel
theorem dX4_cancelled_25 : decode cX4_cancelled 25 = .ok (.istore 4, 2) := by decide +kernel
theorem dX4_cancelled_27 : decode cX4_cancelled 27 = .ok (.iload 4, 2) := by decide +kernel
theorem dX4_cancelled_29 : decode cX4_cancelled 29 = .ok (.iconst (-1), 1) := by decide +kernel
theorem dX4_cancelled_30 : decode cX4_cancelled 30 = .ok (.if_icmp .ne 8, 3) := by decide +kernel
theorem dX4_cancelled_33 : decode cX4_cancelled 33 = .ok (.bipush (-2), 2) := by decide +kernel
theorem dX4_cancelled_35 : decode cX4_cancelled 35 = .ok (.goto 10, 3) := by decide +kernel
theorem dX4_cancelled_38 : decode cX4_cancelled 38 = .ok (.aload_n 3, 1) := by decide +kernel
theorem dX4_cancelled_39 : decode cX4_cancelled 39 = .ok (.getfield 142, 3) := by decide +kernel
theorem dX4_cancelled_42 : decode cX4_cancelled 42 = .ok (.iload 4, 2) := by decide +kernel
theorem dX4_cancelled_44 : decode cX4_cancelled 44 = .ok (.iaload, 1) := by decide +kernel
theorem dX4_cancelled_45 : decode cX4_cancelled 45 = .ok (.ireturn, 1) := by decide +kernel
set_option maxRecDepth 20000 in
theorem ggX4_above_X0_hasPlace : GoodIn wsX4_above wsX0_hasPlace := goodIn_r _ [9, 10, 142, 143] rfl (by decide +kernel)
set_option maxRecDepth 20000 in
theorem gX4_above_X0_hasPlace : GoodIn wsX4_above (wsV RX4 64 RX0 yX0_hasPlace wsX0_hasPlace) := goodIn_app (goodIn_of _ (by decide +kernel)) ggX4_above_X0_hasPlace
set_option maxRecDepth 20000 in
theorem ggX4_above_X4_laidTree : GoodIn wsX4_above wsX4_laidTree := goodIn_r _ [15, 16, 17, 18, 19, 1, 20, 21, 22, 23, 24, 25, 26, 27, 28, 29, 30, 31, 32, 33, 34, 35, 36, 37, 38, 39, 40, 41, 42, 43, 44, 45, 46, 47, 48, 49, 50, 51, 52, 53, 54, 55, 56, 57, 58, 59, 60, 61, 62, 63, 64, 65, 66, 67, 68, 69, 70, 71, 72, 73, 74, 75, 76, 77, 78, 79, 80, 81, 82, 83, 84, 85, 86, 87, 88, 89, 90, 91, 92, 93, 94, 95, 96, 97, 98, 99, 100, 101, 102, 103, 104, 105, 122, 123, 124, 125, 126, 127, 128, 129, 130, 131, 132, 133, 134, 135, 136, 137, 138, 139, 140, 141, 142, 143, 144, 145, 146, 147, 148] rfl (by decide +kernel)
set_option maxRecDepth 20000 in
theorem gX4_above_X4_laidTree : GoodIn wsX4_above (wsV RX4 71 RX4 yX4_laidTree wsX4_laidTree) := goodIn_app (goodIn_of _ (by decide +kernel)) ggX4_above_X4_laidTree
set_option maxRecDepth 20000 in
theorem ggX4_above_X2_depthAt : GoodIn wsX4_above wsX2_depthAt := goodIn_r _ [109, 28, 110, 111, 112, 24, 113, 29, 30, 131, 132, 133, 134, 135, 136, 137, 138, 139, 140, 141] rfl (by decide +kernel)
set_option maxRecDepth 20000 in
theorem gX4_above_X2_depthAt : GoodIn wsX4_above (wsV RX4 145 RX2 yX2_depthAt wsX2_depthAt) := goodIn_app (goodIn_of _ (by decide +kernel)) ggX4_above_X2_depthAt
set_option maxRecDepth 20000 in
theorem ggX4_above_X2_onPath : GoodIn wsX4_above wsX2_onPath := goodIn_r _ [117, 28, 110, 111, 112, 24, 113, 29, 30, 131, 132, 133, 134, 135, 136, 137, 138, 139, 140, 141] rfl (by decide +kernel)
set_option maxRecDepth 20000 in
theorem gX4_above_X2_onPath : GoodIn wsX4_above (wsV RX4 148 RX2 yX2_onPath wsX2_onPath) := goodIn_app (goodIn_of _ (by decide +kernel)) ggX4_above_X2_onPath
set_option maxRecDepth 20000 in
theorem ggX4_above_X2_numberIn : GoodIn wsX4_above wsX2_numberIn := goodIn_r _ [121, 68, 69, 70, 131, 132, 133, 134, 135, 136, 137, 138, 139, 140, 141] rfl (by decide +kernel)
set_option maxRecDepth 20000 in
theorem gX4_above_X2_numberIn : GoodIn wsX4_above (wsV RX4 157 RX2 yX2_numberIn wsX2_numberIn) := goodIn_app (goodIn_of _ (by decide +kernel)) ggX4_above_X2_numberIn
theorem dX4_above_0 : decode cX4_above 0 = .ok (.aload_n 0, 1) := by decide +kernel
theorem dX4_above_1 : decode cX4_above 1 = .ok (.getfield 12, 3) := by decide +kernel
theorem dX4_above_4 : decode cX4_above 4 = .ok (.iload_n 1, 1) := by decide +kernel
theorem dX4_above_5 : decode cX4_above 5 = .ok (.invokevirtual 64, 3) := by decide +kernel
theorem dX4_above_8 : decode cX4_above 8 = .ok (.ifCond .ne 5, 3) := by decide +kernel
theorem dX4_above_11 : decode cX4_above 11 = .ok (.iconst (-1), 1) := by decide +kernel
theorem dX4_above_12 : decode cX4_above 12 = .ok (.ireturn, 1) := by decide +kernel
theorem dX4_above_13 : decode cX4_above 13 = .ok (.aload_n 0, 1) := by decide +kernel
theorem dX4_above_14 : decode cX4_above 14 = .ok (.invokevirtual 71, 3) := by decide +kernel
theorem dX4_above_17 : decode cX4_above 17 = .ok (.astore 4, 2) := by decide +kernel
theorem dX4_above_19 : decode cX4_above 19 = .ok (.iload_n 2, 1) := by decide +kernel
theorem dX4_above_20 : decode cX4_above 20 = .ok (.iconst (-1), 1) := by decide +kernel
theorem dX4_above_21 : decode cX4_above 21 = .ok (.if_icmp .ne 10, 3) := by decide +kernel
theorem dX4_above_24 : decode cX4_above 24 = .ok (.aload 4, 2) := by decide +kernel
theorem dX4_above_26 : decode cX4_above 26 = .ok (.iload_n 1, 1) := by decide +kernel
theorem dX4_above_27 : decode cX4_above 27 = .ok (.invokevirtual 145, 3) := by decide +kernel
theorem dX4_above_30 : decode cX4_above 30 = .ok (.ireturn, 1) := by decide +kernel
theorem dX4_above_31 : decode cX4_above 31 = .ok (.aload 4, 2) := by decide +kernel
theorem dX4_above_33 : decode cX4_above 33 = .ok (.iload_n 1, 1) := by decide +kernel
theorem dX4_above_34 : decode cX4_above 34 = .ok (.iload_n 2, 1) := by decide +kernel
theorem dX4_above_35 : decode cX4_above 35 = .ok (.invokevirtual 148, 3) := by decide +kernel
theorem dX4_above_38 : decode cX4_above 38 = .ok (.istore 5, 2) := by decide +kernel
theorem dX4_above_40 : decode cX4_above 40 = .ok (.iload 5, 2) := by decide +kernel
theorem dX4_above_42 : decode cX4_above 42 = .ok (.iconst (-1), 1) := by decide +kernel
theorem dX4_above_43 : decode cX4_above 43 = .ok (.if_icmp .ne 5, 3) := by decide +kernel
theorem dX4_above_46 : decode cX4_above 46 = .ok (.iconst (-1), 1) := by decide +kernel
theorem dX4_above_47 : decode cX4_above 47 = .ok (.ireturn, 1) := by decide +kernel
theorem dX4_above_48 : decode cX4_above 48 = .ok (.iload_n 3, 1) := by decide +kernel
theorem dX4_above_49 : decode cX4_above 49 = .ok (.tableswitch 62 0 2 #[27, 36, 45], 27) := by decide +kernel
theorem dX4_above_76 : decode cX4_above 76 = .ok (.aload 4, 2) := by decide +kernel
theorem dX4_above_78 : decode cX4_above 78 = .ok (.getfield 151, 3) := by decide +kernel
theorem dX4_above_81 : decode cX4_above 81 = .ok (.iload 5, 2) := by decide +kernel
theorem dX4_above_83 : decode cX4_above 83 = .ok (.iaload, 1) := by decide +kernel
theorem dX4_above_84 : decode cX4_above 84 = .ok (.ireturn, 1) := by decide +kernel
theorem dX4_above_85 : decode cX4_above 85 = .ok (.aload 4, 2) := by decide +kernel
theorem dX4_above_87 : decode cX4_above 87 = .ok (.getfield 154, 3) := by decide +kernel
theorem dX4_above_90 : decode cX4_above 90 = .ok (.iload 5, 2) := by decide +kernel
theorem dX4_above_92 : decode cX4_above 92 = .ok (.iaload, 1) := by decide +kernel
theorem dX4_above_93 : decode cX4_above 93 = .ok (.ireturn, 1) := by decide +kernel
theorem dX4_above_94 : decode cX4_above 94 = .ok (.aload 4, 2) := by decide +kernel
theorem dX4_above_96 : decode cX4_above 96 = .ok (.iload 5, 2) := by decide +kernel
theorem dX4_above_98 : decode cX4_above 98 = .ok (.aload_n 0, 1) := by decide +kernel
theorem dX4_above_99 : decode cX4_above 99 = .ok (.getfield 12, 3) := by decide +kernel
theorem dX4_above_102 : decode cX4_above 102 = .ok (.getfield 110, 3) := by decide +kernel
theorem dX4_above_105 : decode cX4_above 105 = .ok (.iload_n 1, 1) := by decide +kernel
theorem dX4_above_106 : decode cX4_above 106 = .ok (.iaload, 1) := by decide +kernel
theorem dX4_above_107 : decode cX4_above 107 = .ok (.invokevirtual 157, 3) := by decide +kernel
theorem dX4_above_110 : decode cX4_above 110 = .ok (.ireturn, 1) := by decide +kernel
theorem dX4_above_111 : decode cX4_above 111 = .ok (.iconst (-1), 1) := by decide +kernel
theorem dX4_above_112 : decode cX4_above 112 = .ok (.ireturn, 1) := by decide +kernel
set_option maxRecDepth 20000 in
theorem ggX4_holds_X0_hasPlace : GoodIn wsX4_holds wsX0_hasPlace := goodIn_r _ [6, 7, 124, 125] rfl (by decide +kernel)
set_option maxRecDepth 20000 in
theorem gX4_holds_X0_hasPlace : GoodIn wsX4_holds (wsV RX4 64 RX0 yX0_hasPlace wsX0_hasPlace) := goodIn_app (goodIn_of _ (by decide +kernel)) ggX4_holds_X0_hasPlace
set_option maxRecDepth 20000 in
theorem ggX4_holds_X4_laidTree : GoodIn wsX4_holds wsX4_laidTree := goodIn_r _ [12, 13, 14, 15, 16, 1, 17, 18, 19, 20, 21, 22, 23, 24, 25, 26, 27, 28, 29, 30, 31, 32, 33, 34, 35, 36, 37, 38, 39, 40, 41, 42, 43, 44, 45, 46, 47, 48, 49, 50, 51, 52, 53, 54, 55, 56, 57, 58, 59, 60, 61, 62, 63, 64, 65, 66, 67, 68, 69, 70, 71, 72, 73, 74, 75, 76, 77, 78, 79, 80, 81, 82, 83, 84, 85, 86, 87, 88, 89, 90, 91, 92, 93, 94, 95, 96, 97, 98, 99, 100, 101, 102, 115, 116, 117, 118, 119, 120, 121, 122, 123, 126, 127, 128, 129, 130, 131, 132, 133, 134, 135, 136, 124, 125, 137, 138, 139, 140, 141] rfl (by decide +kernel)
set_option maxRecDepth 20000 in
theorem gX4_holds_X4_laidTree : GoodIn wsX4_holds (wsV RX4 71 RX4 yX4_laidTree wsX4_laidTree) := goodIn_app (goodIn_of _ (by decide +kernel)) ggX4_holds_X4_laidTree
set_option maxRecDepth 20000 in
theorem ggX4_holds_X2_holding : GoodIn wsX4_holds wsX2_holding := goodIn_r _ [106, 25, 23, 45, 107, 108, 109, 21, 110, 26, 27, 111, 112, 113, 114, 65, 66, 67, 126, 127, 128, 129, 130, 131, 132, 133, 134, 135, 136, 124, 125] rfl (by decide +kernel)
set_option maxRecDepth 20000 in
theorem gX4_holds_X2_holding : GoodIn wsX4_holds (wsV RX4 160 RX2 yX2_holding wsX2_holding) := goodIn_app (goodIn_of _ (by decide +kernel)) ggX4_holds_X2_holding
theorem dX4_holds_0 : decode cX4_holds 0 = .ok (.aload_n 0, 1) := by decide +kernel
theorem dX4_holds_1 : decode cX4_holds 1 = .ok (.getfield 12, 3) := by decide +kernel
theorem dX4_holds_4 : decode cX4_holds 4 = .ok (.iload_n 1, 1) := by decide +kernel
theorem dX4_holds_5 : decode cX4_holds 5 = .ok (.invokevirtual 64, 3) := by decide +kernel
theorem dX4_holds_8 : decode cX4_holds 8 = .ok (.ifCond .ne 5, 3) := by decide +kernel
theorem dX4_holds_11 : decode cX4_holds 11 = .ok (.iconst (-1), 1) := by decide +kernel
theorem dX4_holds_12 : decode cX4_holds 12 = .ok (.ireturn, 1) := by decide +kernel
theorem dX4_holds_13 : decode cX4_holds 13 = .ok (.aload_n 0, 1) := by decide +kernel
theorem dX4_holds_14 : decode cX4_holds 14 = .ok (.invokevirtual 71, 3) := by decide +kernel
theorem dX4_holds_17 : decode cX4_holds 17 = .ok (.iload_n 1, 1) := by decide +kernel
theorem dX4_holds_18 : decode cX4_holds 18 = .ok (.invokevirtual 160, 3) := by decide +kernel
theorem dX4_holds_21 : decode cX4_holds 21 = .ok (.ireturn, 1) := by decide +kernel
set_option maxRecDepth 20000 in
theorem ggX4_parts_X0_hasRange : GoodIn wsX4_parts wsX0_hasRange := goodIn_r _ [8, 9, 129, 130] rfl (by decide +kernel)
set_option maxRecDepth 20000 in
theorem gX4_parts_X0_hasRange : GoodIn wsX4_parts (wsV RX4 79 RX0 yX0_hasRange wsX0_hasRange) := goodIn_app (goodIn_of _ (by decide +kernel)) ggX4_parts_X0_hasRange
set_option maxRecDepth 20000 in
theorem ggX4_parts_X4_laidTree : GoodIn wsX4_parts wsX4_laidTree := goodIn_r _ [14, 15, 16, 17, 18, 1, 19, 20, 21, 22, 23, 24, 25, 26, 27, 28, 29, 30, 31, 32, 33, 34, 35, 36, 37, 38, 39, 40, 41, 42, 43, 44, 45, 46, 47, 48, 49, 50, 51, 52, 53, 54, 55, 56, 57, 58, 59, 60, 61, 62, 63, 64, 65, 66, 67, 68, 69, 70, 71, 72, 73, 74, 75, 76, 77, 78, 79, 80, 81, 82, 83, 84, 85, 86, 87, 88, 89, 90, 91, 92, 93, 94, 95, 96, 97, 98, 99, 100, 101, 102, 103, 104, 109, 110, 111, 112, 113, 114, 115, 116, 117, 118, 119, 120, 121, 122, 123, 124, 125, 126, 127, 128, 129, 130, 131, 132, 133, 134, 135] rfl (by decide +kernel)
set_option maxRecDepth 20000 in
theorem gX4_parts_X4_laidTree : GoodIn wsX4_parts (wsV RX4 71 RX4 yX4_laidTree wsX4_laidTree) := goodIn_app (goodIn_of _ (by decide +kernel)) ggX4_parts_X4_laidTree
set_option maxRecDepth 20000 in
theorem ggX4_parts_X2_isPart : GoodIn wsX4_parts wsX2_isPart := goodIn_r _ [108, 28, 29, 118, 119, 120, 121, 122, 123, 124, 125, 126, 127, 128] rfl (by decide +kernel)
set_option maxRecDepth 20000 in
theorem gX4_parts_X2_isPart : GoodIn wsX4_parts (wsV RX4 166 RX2 yX2_isPart wsX2_isPart) := goodIn_app (goodIn_of _ (by decide +kernel)) ggX4_parts_X2_isPart
theorem dX4_parts_0 : decode cX4_parts 0 = .ok (.aload_n 0, 1) := by decide +kernel
theorem dX4_parts_1 : decode cX4_parts 1 = .ok (.getfield 12, 3) := by decide +kernel
theorem dX4_parts_4 : decode cX4_parts 4 = .ok (.iload_n 1, 1) := by decide +kernel
theorem dX4_parts_5 : decode cX4_parts 5 = .ok (.iload_n 2, 1) := by decide +kernel
theorem dX4_parts_6 : decode cX4_parts 6 = .ok (.invokevirtual 79, 3) := by decide +kernel
theorem dX4_parts_9 : decode cX4_parts 9 = .ok (.ifCond .ne 5, 3) := by decide +kernel
theorem dX4_parts_12 : decode cX4_parts 12 = .ok (.iconst (-1), 1) := by decide +kernel
theorem dX4_parts_13 : decode cX4_parts 13 = .ok (.ireturn, 1) := by decide +kernel
theorem dX4_parts_14 : decode cX4_parts 14 = .ok (.aload_n 0, 1) := by decide +kernel
theorem dX4_parts_15 : decode cX4_parts 15 = .ok (.invokevirtual 71, 3) := by decide +kernel
theorem dX4_parts_18 : decode cX4_parts 18 = .ok (.astore_n 3, 1) := by decide +kernel
theorem dX4_parts_19 : decode cX4_parts 19 = .ok (.iconst 0, 1) := by decide +kernel
theorem dX4_parts_20 : decode cX4_parts 20 = .ok (.istore 4, 2) := by decide +kernel
theorem dX4_parts_22 : decode cX4_parts 22 = .ok (.iload_n 1, 1) := by decide +kernel
theorem dX4_parts_23 : decode cX4_parts 23 = .ok (.istore 5, 2) := by decide +kernel
theorem dX4_parts_25 : decode cX4_parts 25 = .ok (.iconst 0, 1) := by decide +kernel
theorem dX4_parts_26 : decode cX4_parts 26 = .ok (.istore 6, 2) := by decide +kernel
theorem dX4_parts_28 : decode cX4_parts 28 = .ok (.iload 6, 2) := by decide +kernel
theorem dX4_parts_30 : decode cX4_parts 30 = .ok (.aload_n 3, 1) := by decide +kernel
theorem dX4_parts_31 : decode cX4_parts 31 = .ok (.getfield 163, 3) := by decide +kernel
theorem dX4_parts_34 : decode cX4_parts 34 = .ok (.if_icmp .ge 33, 3) := by decide +kernel
theorem dX4_parts_37 : decode cX4_parts 37 = .ok (.aload_n 3, 1) := by decide +kernel
theorem dX4_parts_38 : decode cX4_parts 38 = .ok (.iload 6, 2) := by decide +kernel
theorem dX4_parts_40 : decode cX4_parts 40 = .ok (.iload 5, 2) := by decide +kernel
theorem dX4_parts_42 : decode cX4_parts 42 = .ok (.iload_n 2, 1) := by decide +kernel
theorem dX4_parts_43 : decode cX4_parts 43 = .ok (.invokevirtual 166, 3) := by decide +kernel
theorem dX4_parts_46 : decode cX4_parts 46 = .ok (.ifCond .eq 15, 3) := by decide +kernel
theorem dX4_parts_49 : decode cX4_parts 49 = .ok (.aload_n 3, 1) := by decide +kernel
theorem dX4_parts_50 : decode cX4_parts 50 = .ok (.getfield 154, 3) := by decide +kernel
theorem dX4_parts_53 : decode cX4_parts 53 = .ok (.iload 6, 2) := by decide +kernel
theorem dX4_parts_55 : decode cX4_parts 55 = .ok (.iaload, 1) := by decide +kernel
theorem dX4_parts_56 : decode cX4_parts 56 = .ok (.istore 5, 2) := by decide +kernel
theorem dX4_parts_58 : decode cX4_parts 58 = .ok (.iinc 4 1, 3) := by decide +kernel
theorem dX4_parts_61 : decode cX4_parts 61 = .ok (.iinc 6 1, 3) := by decide +kernel
theorem dX4_parts_64 : decode cX4_parts 64 = .ok (.goto (-36), 3) := by decide +kernel
theorem dX4_parts_67 : decode cX4_parts 67 = .ok (.iload 4, 2) := by decide +kernel
theorem dX4_parts_69 : decode cX4_parts 69 = .ok (.ireturn, 1) := by decide +kernel
set_option maxRecDepth 20000 in
theorem ggX4_part_X0_hasRange : GoodIn wsX4_part wsX0_hasRange := goodIn_r _ [9, 10, 130, 131] rfl (by decide +kernel)
set_option maxRecDepth 20000 in
theorem gX4_part_X0_hasRange : GoodIn wsX4_part (wsV RX4 79 RX0 yX0_hasRange wsX0_hasRange) := goodIn_app (goodIn_of _ (by decide +kernel)) ggX4_part_X0_hasRange
set_option maxRecDepth 20000 in
theorem ggX4_part_X4_laidTree : GoodIn wsX4_part wsX4_laidTree := goodIn_r _ [15, 16, 17, 18, 19, 1, 20, 21, 22, 23, 24, 25, 26, 27, 28, 29, 30, 31, 32, 33, 34, 35, 36, 37, 38, 39, 40, 41, 42, 43, 44, 45, 46, 47, 48, 49, 50, 51, 52, 53, 54, 55, 56, 57, 58, 59, 60, 61, 62, 63, 64, 65, 66, 67, 68, 69, 70, 71, 72, 73, 74, 75, 76, 77, 78, 79, 80, 81, 82, 83, 84, 85, 86, 87, 88, 89, 90, 91, 92, 93, 94, 95, 96, 97, 98, 99, 100, 101, 102, 103, 104, 105, 110, 111, 112, 113, 114, 115, 116, 117, 118, 119, 120, 121, 122, 123, 124, 125, 126, 127, 128, 129, 130, 131, 132, 133, 134, 135, 136] rfl (by decide +kernel)
set_option maxRecDepth 20000 in
theorem gX4_part_X4_laidTree : GoodIn wsX4_part (wsV RX4 71 RX4 yX4_laidTree wsX4_laidTree) := goodIn_app (goodIn_of _ (by decide +kernel)) ggX4_part_X4_laidTree
set_option maxRecDepth 20000 in
theorem ggX4_part_X2_isPart : GoodIn wsX4_part wsX2_isPart := goodIn_r _ [109, 29, 30, 119, 120, 121, 122, 123, 124, 125, 126, 127, 128, 129] rfl (by decide +kernel)
set_option maxRecDepth 20000 in
theorem gX4_part_X2_isPart : GoodIn wsX4_part (wsV RX4 166 RX2 yX2_isPart wsX2_isPart) := goodIn_app (goodIn_of _ (by decide +kernel)) ggX4_part_X2_isPart
theorem dX4_part_0 : decode cX4_part 0 = .ok (.aload_n 0, 1) := by decide +kernel
theorem dX4_part_1 : decode cX4_part 1 = .ok (.getfield 12, 3) := by decide +kernel
theorem dX4_part_4 : decode cX4_part 4 = .ok (.iload_n 1, 1) := by decide +kernel
theorem dX4_part_5 : decode cX4_part 5 = .ok (.iload_n 2, 1) := by decide +kernel
theorem dX4_part_6 : decode cX4_part 6 = .ok (.invokevirtual 79, 3) := by decide +kernel
theorem dX4_part_9 : decode cX4_part 9 = .ok (.ifCond .eq 18, 3) := by decide +kernel
theorem dX4_part_12 : decode cX4_part 12 = .ok (.iload_n 3, 1) := by decide +kernel
theorem dX4_part_13 : decode cX4_part 13 = .ok (.ifCond .lt 14, 3) := by decide +kernel
theorem dX4_part_16 : decode cX4_part 16 = .ok (.iload 4, 2) := by decide +kernel
theorem dX4_part_18 : decode cX4_part 18 = .ok (.ifCond .lt 9, 3) := by decide +kernel
theorem dX4_part_21 : decode cX4_part 21 = .ok (.iload 4, 2) := by decide +kernel
theorem dX4_part_23 : decode cX4_part 23 = .ok (.iconst 1, 1) := by decide +kernel
theorem dX4_part_24 : decode cX4_part 24 = .ok (.if_icmp .le 5, 3) := by decide +kernel
theorem dX4_part_27 : decode cX4_part 27 = .ok (.iconst (-1), 1) := by decide +kernel
theorem dX4_part_28 : decode cX4_part 28 = .ok (.ireturn, 1) := by decide +kernel
theorem dX4_part_29 : decode cX4_part 29 = .ok (.aload_n 0, 1) := by decide +kernel
theorem dX4_part_30 : decode cX4_part 30 = .ok (.invokevirtual 71, 3) := by decide +kernel
theorem dX4_part_33 : decode cX4_part 33 = .ok (.astore 5, 2) := by decide +kernel
theorem dX4_part_35 : decode cX4_part 35 = .ok (.iconst 0, 1) := by decide +kernel
theorem dX4_part_36 : decode cX4_part 36 = .ok (.istore 6, 2) := by decide +kernel
theorem dX4_part_38 : decode cX4_part 38 = .ok (.iload_n 1, 1) := by decide +kernel
theorem dX4_part_39 : decode cX4_part 39 = .ok (.istore 7, 2) := by decide +kernel
theorem dX4_part_41 : decode cX4_part 41 = .ok (.iconst 0, 1) := by decide +kernel
theorem dX4_part_42 : decode cX4_part 42 = .ok (.istore 8, 2) := by decide +kernel
theorem dX4_part_44 : decode cX4_part 44 = .ok (.iload 8, 2) := by decide +kernel
theorem dX4_part_46 : decode cX4_part 46 = .ok (.aload 5, 2) := by decide +kernel
theorem dX4_part_48 : decode cX4_part 48 = .ok (.getfield 163, 3) := by decide +kernel
theorem dX4_part_51 : decode cX4_part 51 = .ok (.if_icmp .ge 66, 3) := by decide +kernel
theorem dX4_part_54 : decode cX4_part 54 = .ok (.aload 5, 2) := by decide +kernel
theorem dX4_part_56 : decode cX4_part 56 = .ok (.iload 8, 2) := by decide +kernel
theorem dX4_part_58 : decode cX4_part 58 = .ok (.iload 7, 2) := by decide +kernel
theorem dX4_part_60 : decode cX4_part 60 = .ok (.iload_n 2, 1) := by decide +kernel
theorem dX4_part_61 : decode cX4_part 61 = .ok (.invokevirtual 166, 3) := by decide +kernel
theorem dX4_part_64 : decode cX4_part 64 = .ok (.ifCond .eq 47, 3) := by decide +kernel
theorem dX4_part_67 : decode cX4_part 67 = .ok (.iload 6, 2) := by decide +kernel
theorem dX4_part_69 : decode cX4_part 69 = .ok (.iload_n 3, 1) := by decide +kernel
theorem dX4_part_70 : decode cX4_part 70 = .ok (.if_icmp .ne 28, 3) := by decide +kernel
theorem dX4_part_73 : decode cX4_part 73 = .ok (.iload 4, 2) := by decide +kernel
theorem dX4_part_75 : decode cX4_part 75 = .ok (.ifCond .ne 14, 3) := by decide +kernel
theorem dX4_part_78 : decode cX4_part 78 = .ok (.aload 5, 2) := by decide +kernel
theorem dX4_part_80 : decode cX4_part 80 = .ok (.getfield 151, 3) := by decide +kernel
theorem dX4_part_83 : decode cX4_part 83 = .ok (.iload 8, 2) := by decide +kernel
theorem dX4_part_85 : decode cX4_part 85 = .ok (.iaload, 1) := by decide +kernel
theorem dX4_part_86 : decode cX4_part 86 = .ok (.goto 11, 3) := by decide +kernel
theorem dX4_part_89 : decode cX4_part 89 = .ok (.aload 5, 2) := by decide +kernel
theorem dX4_part_91 : decode cX4_part 91 = .ok (.getfield 154, 3) := by decide +kernel
theorem dX4_part_94 : decode cX4_part 94 = .ok (.iload 8, 2) := by decide +kernel
theorem dX4_part_96 : decode cX4_part 96 = .ok (.iaload, 1) := by decide +kernel
theorem dX4_part_97 : decode cX4_part 97 = .ok (.ireturn, 1) := by decide +kernel
theorem dX4_part_98 : decode cX4_part 98 = .ok (.aload 5, 2) := by decide +kernel
theorem dX4_part_100 : decode cX4_part 100 = .ok (.getfield 154, 3) := by decide +kernel
theorem dX4_part_103 : decode cX4_part 103 = .ok (.iload 8, 2) := by decide +kernel
theorem dX4_part_105 : decode cX4_part 105 = .ok (.iaload, 1) := by decide +kernel
theorem dX4_part_106 : decode cX4_part 106 = .ok (.istore 7, 2) := by decide +kernel
theorem dX4_part_108 : decode cX4_part 108 = .ok (.iinc 6 1, 3) := by decide +kernel
theorem dX4_part_111 : decode cX4_part 111 = .ok (.iinc 8 1, 3) := by decide +kernel
theorem dX4_part_114 : decode cX4_part 114 = .ok (.goto (-70), 3) := by decide +kernel
theorem dX4_part_117 : decode cX4_part 117 = .ok (.iconst (-1), 1) := by decide +kernel
theorem dX4_part_118 : decode cX4_part 118 = .ok (.ireturn, 1) := by decide +kernel
set_option maxRecDepth 20000 in
theorem ggX4_summary_X0_hasRange : GoodIn wsX4_summary wsX0_hasRange := goodIn_r _ [9, 10, 132, 133] rfl (by decide +kernel)
set_option maxRecDepth 20000 in
theorem gX4_summary_X0_hasRange : GoodIn wsX4_summary (wsV RX4 79 RX0 yX0_hasRange wsX0_hasRange) := goodIn_app (goodIn_of _ (by decide +kernel)) ggX4_summary_X0_hasRange
set_option maxRecDepth 20000 in
theorem ggX4_summary_X4_laidTree : GoodIn wsX4_summary wsX4_laidTree := goodIn_r _ [15, 16, 17, 18, 19, 1, 20, 21, 22, 23, 24, 25, 26, 27, 28, 29, 30, 31, 32, 33, 34, 35, 36, 37, 38, 39, 40, 41, 42, 43, 44, 45, 46, 47, 48, 49, 50, 51, 52, 53, 54, 55, 56, 57, 58, 59, 60, 61, 62, 63, 64, 65, 66, 67, 68, 69, 70, 71, 72, 73, 74, 75, 76, 77, 78, 79, 80, 81, 82, 83, 84, 85, 86, 87, 88, 89, 90, 91, 92, 93, 94, 95, 96, 97, 98, 99, 100, 101, 102, 103, 104, 105, 118, 119, 120, 121, 122, 123, 124, 125, 126, 134, 135, 136, 137, 138, 139, 140, 141, 142, 143, 144, 132, 133, 127, 128, 129, 130, 131] rfl (by decide +kernel)
set_option maxRecDepth 20000 in
theorem gX4_summary_X4_laidTree : GoodIn wsX4_summary (wsV RX4 71 RX4 yX4_laidTree wsX4_laidTree) := goodIn_app (goodIn_of _ (by decide +kernel)) ggX4_summary_X4_laidTree
set_option maxRecDepth 20000 in
theorem ggX4_summary_X2_gather : GoodIn wsX4_summary wsX2_gather := goodIn_r _ [109, 28, 30, 49, 50, 51, 52, 53, 54, 55, 56, 57, 110, 111, 112, 24, 113, 29, 64, 65, 66, 67, 68, 69, 70, 71, 72, 58, 59, 60, 61, 62, 63, 73, 74, 75, 76, 77, 78, 79, 80, 81, 82, 83, 84, 85, 86, 87, 88, 134, 135, 136, 137, 138, 139, 140, 141, 142, 143, 144, 127, 128, 129, 130, 131] rfl (by decide +kernel)
set_option maxRecDepth 20000 in
theorem gX4_summary_X2_gather : GoodIn wsX4_summary (wsV RX4 170 RX2 yX2_gather wsX2_gather) := goodIn_app (goodIn_of _ (by decide +kernel)) ggX4_summary_X2_gather
set_option maxRecDepth 20000 in
theorem ggX4_summary_X3_total : GoodIn wsX4_summary wsX3_total := goodIn_r _ [117, 55, 63, 127, 128, 129, 130, 131] rfl (by decide +kernel)
set_option maxRecDepth 20000 in
theorem gX4_summary_X3_total : GoodIn wsX4_summary (wsV RX4 176 RX3 yX3_total wsX3_total) := goodIn_app (goodIn_of _ (by decide +kernel)) ggX4_summary_X3_total
theorem dX4_summary_0 : decode cX4_summary 0 = .ok (.aload_n 0, 1) := by decide +kernel
theorem dX4_summary_1 : decode cX4_summary 1 = .ok (.getfield 12, 3) := by decide +kernel
theorem dX4_summary_4 : decode cX4_summary 4 = .ok (.iload_n 1, 1) := by decide +kernel
theorem dX4_summary_5 : decode cX4_summary 5 = .ok (.iload_n 2, 1) := by decide +kernel
theorem dX4_summary_6 : decode cX4_summary 6 = .ok (.invokevirtual 79, 3) := by decide +kernel
theorem dX4_summary_9 : decode cX4_summary 9 = .ok (.ifCond .eq 12, 3) := by decide +kernel
theorem dX4_summary_12 : decode cX4_summary 12 = .ok (.iload_n 3, 1) := by decide +kernel
theorem dX4_summary_13 : decode cX4_summary 13 = .ok (.ifCond .lt 8, 3) := by decide +kernel
theorem dX4_summary_16 : decode cX4_summary 16 = .ok (.iload_n 3, 1) := by decide +kernel
theorem dX4_summary_17 : decode cX4_summary 17 = .ok (.iconst 2, 1) := by decide +kernel
theorem dX4_summary_18 : decode cX4_summary 18 = .ok (.if_icmp .le 5, 3) := by decide +kernel
theorem dX4_summary_21 : decode cX4_summary 21 = .ok (.iconst (-1), 1) := by decide +kernel
theorem dX4_summary_22 : decode cX4_summary 22 = .ok (.ireturn, 1) := by decide +kernel
theorem dX4_summary_23 : decode cX4_summary 23 = .ok (.aload_n 0, 1) := by decide +kernel
theorem dX4_summary_24 : decode cX4_summary 24 = .ok (.invokevirtual 71, 3) := by decide +kernel
theorem dX4_summary_27 : decode cX4_summary 27 = .ok (.aload_n 0, 1) := by decide +kernel
theorem dX4_summary_28 : decode cX4_summary 28 = .ok (.getfield 35, 3) := by decide +kernel
theorem dX4_summary_31 : decode cX4_summary 31 = .ok (.iload_n 1, 1) := by decide +kernel
theorem dX4_summary_32 : decode cX4_summary 32 = .ok (.iload_n 2, 1) := by decide +kernel
theorem dX4_summary_33 : decode cX4_summary 33 = .ok (.invokevirtual 170, 3) := by decide +kernel
theorem dX4_summary_36 : decode cX4_summary 36 = .ok (.iload_n 3, 1) := by decide +kernel
theorem dX4_summary_37 : decode cX4_summary 37 = .ok (.lookupswitch 43 #[(0, 27), (1, 35)], 27) := by decide +kernel
theorem dX4_summary_64 : decode cX4_summary 64 = .ok (.aload_n 0, 1) := by decide +kernel
theorem dX4_summary_65 : decode cX4_summary 65 = .ok (.getfield 35, 3) := by decide +kernel
theorem dX4_summary_68 : decode cX4_summary 68 = .ok (.getfield 174, 3) := by decide +kernel
theorem dX4_summary_71 : decode cX4_summary 71 = .ok (.ireturn, 1) := by decide +kernel
theorem dX4_summary_72 : decode cX4_summary 72 = .ok (.aload_n 0, 1) := by decide +kernel
theorem dX4_summary_73 : decode cX4_summary 73 = .ok (.getfield 35, 3) := by decide +kernel
theorem dX4_summary_76 : decode cX4_summary 76 = .ok (.invokevirtual 176, 3) := by decide +kernel
theorem dX4_summary_79 : decode cX4_summary 79 = .ok (.ireturn, 1) := by decide +kernel
theorem dX4_summary_80 : decode cX4_summary 80 = .ok (.aload_n 0, 1) := by decide +kernel
theorem dX4_summary_81 : decode cX4_summary 81 = .ok (.getfield 35, 3) := by decide +kernel
theorem dX4_summary_84 : decode cX4_summary 84 = .ok (.getfield 180, 3) := by decide +kernel
theorem dX4_summary_87 : decode cX4_summary 87 = .ok (.ireturn, 1) := by decide +kernel
set_option maxRecDepth 20000 in
theorem ggX4_lost_X4_isValue : GoodIn wsX4_lost wsX4_isValue := goodIn_r _ [6] rfl (by decide +kernel)
set_option maxRecDepth 20000 in
theorem gX4_lost_X4_isValue : GoodIn wsX4_lost (va_wsS RX4 68 yX4_isValue wsX4_isValue) := goodIn_app (goodIn_of _ (by decide +kernel)) ggX4_lost_X4_isValue
set_option maxRecDepth 20000 in
theorem ggX4_lost_X0_hasRange : GoodIn wsX4_lost wsX0_hasRange := goodIn_r _ [11, 12, 133, 134] rfl (by decide +kernel)
set_option maxRecDepth 20000 in
theorem gX4_lost_X0_hasRange : GoodIn wsX4_lost (wsV RX4 79 RX0 yX0_hasRange wsX0_hasRange) := goodIn_app (goodIn_of _ (by decide +kernel)) ggX4_lost_X0_hasRange
set_option maxRecDepth 20000 in
theorem ggX4_lost_X4_laidTree : GoodIn wsX4_lost wsX4_laidTree := goodIn_r _ [16, 17, 18, 19, 20, 1, 21, 22, 23, 24, 25, 26, 27, 28, 29, 30, 31, 32, 33, 34, 35, 36, 37, 38, 39, 40, 41, 42, 43, 44, 45, 46, 47, 48, 49, 50, 51, 52, 53, 54, 55, 56, 57, 58, 59, 60, 61, 62, 63, 64, 65, 66, 67, 68, 69, 70, 71, 72, 73, 74, 75, 76, 77, 78, 79, 80, 81, 82, 83, 84, 85, 86, 87, 88, 89, 90, 91, 92, 93, 94, 95, 96, 97, 98, 99, 100, 101, 102, 103, 104, 105, 106, 124, 125, 126, 127, 128, 129, 130, 131, 132, 135, 136, 137, 138, 139, 140, 141, 142, 143, 144, 145, 133, 134, 146, 147, 148, 149, 150] rfl (by decide +kernel)
set_option maxRecDepth 20000 in
theorem gX4_lost_X4_laidTree : GoodIn wsX4_lost (wsV RX4 71 RX4 yX4_laidTree wsX4_laidTree) := goodIn_app (goodIn_of _ (by decide +kernel)) ggX4_lost_X4_laidTree
set_option maxRecDepth 20000 in
theorem ggX4_lost_X2_gather : GoodIn wsX4_lost wsX2_gather := goodIn_r _ [110, 29, 31, 50, 51, 52, 53, 54, 55, 56, 57, 58, 111, 112, 113, 25, 114, 30, 65, 66, 67, 68, 69, 70, 71, 72, 73, 59, 60, 61, 62, 63, 64, 74, 75, 76, 77, 78, 79, 80, 81, 82, 83, 84, 85, 86, 87, 88, 89, 135, 136, 137, 138, 139, 140, 141, 142, 143, 144, 145, 146, 147, 148, 149, 150] rfl (by decide +kernel)
set_option maxRecDepth 20000 in
theorem gX4_lost_X2_gather : GoodIn wsX4_lost (wsV RX4 170 RX2 yX2_gather wsX2_gather) := goodIn_app (goodIn_of _ (by decide +kernel)) ggX4_lost_X2_gather
set_option maxRecDepth 20000 in
theorem ggX4_lost_X0_oftenIn : GoodIn wsX4_lost wsX0_oftenIn := goodIn_r _ [118, 119, 133, 134] rfl (by decide +kernel)
set_option maxRecDepth 20000 in
theorem gX4_lost_X0_oftenIn : GoodIn wsX4_lost (wsV RX4 113 RX0 yX0_oftenIn wsX0_oftenIn) := goodIn_app (goodIn_of _ (by decide +kernel)) ggX4_lost_X0_oftenIn
set_option maxRecDepth 20000 in
theorem ggX4_lost_X3_numberOf : GoodIn wsX4_lost wsX3_numberOf := goodIn_r _ [123, 56, 63, 64, 146, 147, 148, 149, 150] rfl (by decide +kernel)
set_option maxRecDepth 20000 in
theorem gX4_lost_X3_numberOf : GoodIn wsX4_lost (wsV RX4 183 RX3 yX3_numberOf wsX3_numberOf) := goodIn_app (goodIn_of _ (by decide +kernel)) ggX4_lost_X3_numberOf
theorem dX4_lost_0 : decode cX4_lost 0 = .ok (.iload_n 1, 1) := by decide +kernel
theorem dX4_lost_1 : decode cX4_lost 1 = .ok (.invokestatic 68, 3) := by decide +kernel
theorem dX4_lost_4 : decode cX4_lost 4 = .ok (.ifCond .eq 15, 3) := by decide +kernel
theorem dX4_lost_7 : decode cX4_lost 7 = .ok (.aload_n 0, 1) := by decide +kernel
theorem dX4_lost_8 : decode cX4_lost 8 = .ok (.getfield 12, 3) := by decide +kernel
theorem dX4_lost_11 : decode cX4_lost 11 = .ok (.iload_n 2, 1) := by decide +kernel
theorem dX4_lost_12 : decode cX4_lost 12 = .ok (.iload_n 3, 1) := by decide +kernel
theorem dX4_lost_13 : decode cX4_lost 13 = .ok (.invokevirtual 79, 3) := by decide +kernel
theorem dX4_lost_16 : decode cX4_lost 16 = .ok (.ifCond .ne 5, 3) := by decide +kernel
theorem dX4_lost_19 : decode cX4_lost 19 = .ok (.iconst (-1), 1) := by decide +kernel
theorem dX4_lost_20 : decode cX4_lost 20 = .ok (.ireturn, 1) := by decide +kernel
theorem dX4_lost_21 : decode cX4_lost 21 = .ok (.aload_n 0, 1) := by decide +kernel
theorem dX4_lost_22 : decode cX4_lost 22 = .ok (.invokevirtual 71, 3) := by decide +kernel
theorem dX4_lost_25 : decode cX4_lost 25 = .ok (.aload_n 0, 1) := by decide +kernel
theorem dX4_lost_26 : decode cX4_lost 26 = .ok (.getfield 35, 3) := by decide +kernel
theorem dX4_lost_29 : decode cX4_lost 29 = .ok (.iload_n 2, 1) := by decide +kernel
theorem dX4_lost_30 : decode cX4_lost 30 = .ok (.iload_n 3, 1) := by decide +kernel
theorem dX4_lost_31 : decode cX4_lost 31 = .ok (.invokevirtual 170, 3) := by decide +kernel
theorem dX4_lost_34 : decode cX4_lost 34 = .ok (.aload_n 0, 1) := by decide +kernel
theorem dX4_lost_35 : decode cX4_lost 35 = .ok (.getfield 12, 3) := by decide +kernel
theorem dX4_lost_38 : decode cX4_lost 38 = .ok (.iload_n 1, 1) := by decide +kernel
theorem dX4_lost_39 : decode cX4_lost 39 = .ok (.iload_n 2, 1) := by decide +kernel
theorem dX4_lost_40 : decode cX4_lost 40 = .ok (.iload_n 3, 1) := by decide +kernel
theorem dX4_lost_41 : decode cX4_lost 41 = .ok (.invokevirtual 113, 3) := by decide +kernel
theorem dX4_lost_44 : decode cX4_lost 44 = .ok (.aload_n 0, 1) := by decide +kernel
theorem dX4_lost_45 : decode cX4_lost 45 = .ok (.getfield 35, 3) := by decide +kernel
theorem dX4_lost_48 : decode cX4_lost 48 = .ok (.iload_n 1, 1) := by decide +kernel
theorem dX4_lost_49 : decode cX4_lost 49 = .ok (.invokevirtual 183, 3) := by decide +kernel
theorem dX4_lost_52 : decode cX4_lost 52 = .ok (.isub, 1) := by decide +kernel
theorem dX4_lost_53 : decode cX4_lost 53 = .ok (.ireturn, 1) := by decide +kernel
set_option maxRecDepth 20000 in
theorem ggX4_surely_X0_hasRange : GoodIn wsX4_surely wsX0_hasRange := goodIn_r _ [12, 13, 131, 132] rfl (by decide +kernel)
set_option maxRecDepth 20000 in
theorem gX4_surely_X0_hasRange : GoodIn wsX4_surely (wsV RX4 79 RX0 yX0_hasRange wsX0_hasRange) := goodIn_app (goodIn_of _ (by decide +kernel)) ggX4_surely_X0_hasRange
set_option maxRecDepth 20000 in
theorem ggX4_surely_X4_laidTree : GoodIn wsX4_surely wsX4_laidTree := goodIn_r _ [18, 19, 20, 21, 22, 1, 23, 24, 25, 26, 27, 28, 29, 30, 31, 32, 33, 34, 35, 36, 37, 38, 39, 40, 41, 42, 43, 44, 45, 46, 47, 48, 49, 50, 51, 52, 53, 54, 55, 56, 57, 58, 59, 60, 61, 62, 63, 64, 65, 66, 67, 68, 69, 70, 71, 72, 73, 74, 75, 76, 77, 78, 79, 80, 81, 82, 83, 84, 85, 86, 87, 88, 89, 90, 91, 92, 93, 94, 95, 96, 97, 98, 99, 100, 101, 102, 103, 104, 105, 106, 107, 108, 117, 118, 119, 120, 121, 122, 123, 124, 125, 133, 134, 135, 136, 137, 138, 139, 140, 141, 142, 143, 131, 132, 126, 127, 128, 129, 130] rfl (by decide +kernel)
set_option maxRecDepth 20000 in
theorem gX4_surely_X4_laidTree : GoodIn wsX4_surely (wsV RX4 71 RX4 yX4_laidTree wsX4_laidTree) := goodIn_app (goodIn_of _ (by decide +kernel)) ggX4_surely_X4_laidTree
set_option maxRecDepth 20000 in
theorem ggX4_surely_X2_gather : GoodIn wsX4_surely wsX2_gather := goodIn_r _ [112, 31, 33, 52, 53, 54, 55, 56, 57, 58, 59, 60, 113, 114, 115, 27, 116, 32, 67, 68, 69, 70, 71, 72, 73, 74, 75, 61, 62, 63, 64, 65, 66, 76, 77, 78, 79, 80, 81, 82, 83, 84, 85, 86, 87, 88, 89, 90, 91, 133, 134, 135, 136, 137, 138, 139, 140, 141, 142, 143, 126, 127, 128, 129, 130] rfl (by decide +kernel)
set_option maxRecDepth 20000 in
theorem gX4_surely_X2_gather : GoodIn wsX4_surely (wsV RX4 170 RX2 yX2_gather wsX2_gather) := goodIn_app (goodIn_of _ (by decide +kernel)) ggX4_surely_X2_gather
theorem dX4_surely_0 : decode cX4_surely 0 = .ok (.aload_n 0, 1) := by decide +kernel
theorem dX4_surely_1 : decode cX4_surely 1 = .ok (.getfield 12, 3) := by decide +kernel
theorem dX4_surely_4 : decode cX4_surely 4 = .ok (.iload_n 1, 1) := by decide +kernel
theorem dX4_surely_5 : decode cX4_surely 5 = .ok (.iload_n 2, 1) := by decide +kernel
theorem dX4_surely_6 : decode cX4_surely 6 = .ok (.invokevirtual 79, 3) := by decide +kernel
theorem dX4_surely_9 : decode cX4_surely 9 = .ok (.ifCond .ne 6, 3) := by decide +kernel
theorem dX4_surely_12 : decode cX4_surely 12 = .ok (.ldc 102, 2) := by decide +kernel
theorem dX4_surely_14 : decode cX4_surely 14 = .ok (.ireturn, 1) := by decide +kernel
theorem dX4_surely_15 : decode cX4_surely 15 = .ok (.aload_n 0, 1) := by decide +kernel
theorem dX4_surely_16 : decode cX4_surely 16 = .ok (.invokevirtual 71, 3) := by decide +kernel
theorem dX4_surely_19 : decode cX4_surely 19 = .ok (.aload_n 0, 1) := by decide +kernel
theorem dX4_surely_20 : decode cX4_surely 20 = .ok (.getfield 35, 3) := by decide +kernel
theorem dX4_surely_23 : decode cX4_surely 23 = .ok (.iload_n 1, 1) := by decide +kernel
theorem dX4_surely_24 : decode cX4_surely 24 = .ok (.iload_n 2, 1) := by decide +kernel
theorem dX4_surely_25 : decode cX4_surely 25 = .ok (.invokevirtual 170, 3) := by decide +kernel
theorem dX4_surely_28 : decode cX4_surely 28 = .ok (.aload_n 0, 1) := by decide +kernel
theorem dX4_surely_29 : decode cX4_surely 29 = .ok (.getfield 35, 3) := by decide +kernel
theorem dX4_surely_32 : decode cX4_surely 32 = .ok (.getfield 174, 3) := by decide +kernel
theorem dX4_surely_35 : decode cX4_surely 35 = .ok (.ifCond .ne 6, 3) := by decide +kernel
theorem dX4_surely_38 : decode cX4_surely 38 = .ok (.ldc 102, 2) := by decide +kernel
theorem dX4_surely_40 : decode cX4_surely 40 = .ok (.ireturn, 1) := by decide +kernel
theorem dX4_surely_41 : decode cX4_surely 41 = .ok (.aload_n 0, 1) := by decide +kernel
theorem dX4_surely_42 : decode cX4_surely 42 = .ok (.getfield 35, 3) := by decide +kernel
theorem dX4_surely_45 : decode cX4_surely 45 = .ok (.getfield 174, 3) := by decide +kernel
theorem dX4_surely_48 : decode cX4_surely 48 = .ok (.iconst 1, 1) := by decide +kernel
theorem dX4_surely_49 : decode cX4_surely 49 = .ok (.if_icmp .le 15, 3) := by decide +kernel
theorem dX4_surely_52 : decode cX4_surely 52 = .ok (.aload_n 0, 1) := by decide +kernel
theorem dX4_surely_53 : decode cX4_surely 53 = .ok (.getfield 35, 3) := by decide +kernel
theorem dX4_surely_56 : decode cX4_surely 56 = .ok (.getfield 136, 3) := by decide +kernel
theorem dX4_surely_59 : decode cX4_surely 59 = .ok (.iconst 1, 1) := by decide +kernel
theorem dX4_surely_60 : decode cX4_surely 60 = .ok (.iaload, 1) := by decide +kernel
theorem dX4_surely_61 : decode cX4_surely 61 = .ok (.goto 4, 3) := by decide +kernel
theorem dX4_surely_64 : decode cX4_surely 64 = .ok (.iconst 0, 1) := by decide +kernel
theorem dX4_surely_65 : decode cX4_surely 65 = .ok (.istore_n 3, 1) := by decide +kernel
theorem dX4_surely_66 : decode cX4_surely 66 = .ok (.aload_n 0, 1) := by decide +kernel
theorem dX4_surely_67 : decode cX4_surely 67 = .ok (.getfield 35, 3) := by decide +kernel
theorem dX4_surely_70 : decode cX4_surely 70 = .ok (.getfield 136, 3) := by decide +kernel
theorem dX4_surely_73 : decode cX4_surely 73 = .ok (.iconst 0, 1) := by decide +kernel
theorem dX4_surely_74 : decode cX4_surely 74 = .ok (.iaload, 1) := by decide +kernel
theorem dX4_surely_75 : decode cX4_surely 75 = .ok (.iload_n 3, 1) := by decide +kernel
theorem dX4_surely_76 : decode cX4_surely 76 = .ok (.aload_n 0, 1) := by decide +kernel
theorem dX4_surely_77 : decode cX4_surely 77 = .ok (.getfield 35, 3) := by decide +kernel
theorem dX4_surely_80 : decode cX4_surely 80 = .ok (.getfield 180, 3) := by decide +kernel
theorem dX4_surely_83 : decode cX4_surely 83 = .ok (.iadd, 1) := by decide +kernel
theorem dX4_surely_84 : decode cX4_surely 84 = .ok (.if_icmp .le 15, 3) := by decide +kernel
theorem dX4_surely_87 : decode cX4_surely 87 = .ok (.aload_n 0, 1) := by decide +kernel
theorem dX4_surely_88 : decode cX4_surely 88 = .ok (.getfield 35, 3) := by decide +kernel
theorem dX4_surely_91 : decode cX4_surely 91 = .ok (.getfield 133, 3) := by decide +kernel
theorem dX4_surely_94 : decode cX4_surely 94 = .ok (.iconst 0, 1) := by decide +kernel
theorem dX4_surely_95 : decode cX4_surely 95 = .ok (.iaload, 1) := by decide +kernel
theorem dX4_surely_96 : decode cX4_surely 96 = .ok (.goto 5, 3) := by decide +kernel
theorem dX4_surely_99 : decode cX4_surely 99 = .ok (.ldc 102, 2) := by decide +kernel
theorem dX4_surely_101 : decode cX4_surely 101 = .ok (.ireturn, 1) := by decide +kernel
set_option maxRecDepth 20000 in
theorem ggX4_heavy_X0_hasRange : GoodIn wsX4_heavy wsX0_hasRange := goodIn_r _ [8, 9, 151, 152] rfl (by decide +kernel)
set_option maxRecDepth 20000 in
theorem gX4_heavy_X0_hasRange : GoodIn wsX4_heavy (wsV RX4 79 RX0 yX0_hasRange wsX0_hasRange) := goodIn_app (goodIn_of _ (by decide +kernel)) ggX4_heavy_X0_hasRange
set_option maxRecDepth 20000 in
theorem ggX4_heavy_X4_isShare : GoodIn wsX4_heavy wsX4_isShare := goodIn_r _ [13] rfl (by decide +kernel)
set_option maxRecDepth 20000 in
theorem gX4_heavy_X4_isShare : GoodIn wsX4_heavy (va_wsS RX4 186 yX4_isShare wsX4_isShare) := goodIn_app (goodIn_of _ (by decide +kernel)) ggX4_heavy_X4_isShare
set_option maxRecDepth 20000 in
theorem ggX4_heavy_X4_isEnough : GoodIn wsX4_heavy wsX4_isEnough := goodIn_r _ [17, 18, 137, 138, 139, 140, 141, 142, 143, 144, 145] rfl (by decide +kernel)
set_option maxRecDepth 20000 in
theorem gX4_heavy_X4_isEnough : GoodIn wsX4_heavy (wsV RX4 189 RX4 yX4_isEnough wsX4_isEnough) := goodIn_app (goodIn_of _ (by decide +kernel)) ggX4_heavy_X4_isEnough
set_option maxRecDepth 20000 in
theorem ggX4_heavy_X4_laidTree : GoodIn wsX4_heavy wsX4_laidTree := goodIn_r _ [22, 23, 24, 18, 25, 1, 26, 27, 28, 29, 30, 31, 32, 33, 34, 35, 36, 37, 38, 39, 40, 41, 42, 43, 44, 45, 46, 47, 48, 49, 50, 51, 52, 53, 54, 55, 56, 57, 58, 59, 60, 61, 62, 63, 64, 65, 66, 67, 68, 69, 70, 71, 72, 73, 74, 75, 76, 77, 78, 79, 80, 81, 82, 83, 84, 85, 86, 87, 88, 89, 90, 91, 92, 93, 94, 95, 96, 97, 98, 99, 100, 101, 102, 103, 104, 105, 106, 107, 108, 109, 110, 111, 137, 138, 139, 140, 141, 142, 143, 144, 145, 153, 154, 155, 156, 157, 158, 159, 160, 161, 162, 163, 151, 152, 146, 147, 148, 149, 150] rfl (by decide +kernel)
set_option maxRecDepth 20000 in
theorem gX4_heavy_X4_laidTree : GoodIn wsX4_heavy (wsV RX4 71 RX4 yX4_laidTree wsX4_laidTree) := goodIn_app (goodIn_of _ (by decide +kernel)) ggX4_heavy_X4_laidTree
set_option maxRecDepth 20000 in
theorem ggX4_heavy_X4_gatherHeavy : GoodIn wsX4_heavy wsX4_gatherHeavy := goodIn_r _ [115, 2, 3, 116, 1, 117, 118, 119, 120, 30, 121, 34, 36, 55, 56, 57, 58, 59, 60, 61, 62, 63, 122, 123, 124, 125, 35, 70, 71, 72, 73, 74, 75, 76, 77, 78, 64, 65, 66, 67, 68, 69, 79, 80, 81, 82, 83, 84, 85, 86, 87, 88, 89, 90, 91, 92, 93, 94, 126, 127, 128, 7, 129, 130, 131, 132, 133, 134, 135, 12, 136, 137, 138, 139, 140, 141, 142, 143, 144, 145, 146, 147, 148, 149, 150, 153, 154, 155, 156, 157, 158, 159, 160, 161, 162, 163, 151, 152] rfl (by decide +kernel)
set_option maxRecDepth 20000 in
theorem gX4_heavy_X4_gatherHeavy : GoodIn wsX4_heavy (wsV RX4 192 RX4 yX4_gatherHeavy wsX4_gatherHeavy) := goodIn_app (goodIn_of _ (by decide +kernel)) ggX4_heavy_X4_gatherHeavy
theorem dX4_heavy_0 : decode cX4_heavy 0 = .ok (.aload_n 0, 1) := by decide +kernel
theorem dX4_heavy_1 : decode cX4_heavy 1 = .ok (.getfield 12, 3) := by decide +kernel
theorem dX4_heavy_4 : decode cX4_heavy 4 = .ok (.iload_n 1, 1) := by decide +kernel
theorem dX4_heavy_5 : decode cX4_heavy 5 = .ok (.iload_n 2, 1) := by decide +kernel
theorem dX4_heavy_6 : decode cX4_heavy 6 = .ok (.invokevirtual 79, 3) := by decide +kernel
theorem dX4_heavy_9 : decode cX4_heavy 9 = .ok (.ifCond .eq 12, 3) := by decide +kernel
theorem dX4_heavy_12 : decode cX4_heavy 12 = .ok (.iload_n 3, 1) := by decide +kernel
theorem dX4_heavy_13 : decode cX4_heavy 13 = .ok (.iload 4, 2) := by decide +kernel
theorem dX4_heavy_15 : decode cX4_heavy 15 = .ok (.invokestatic 186, 3) := by decide +kernel
theorem dX4_heavy_18 : decode cX4_heavy 18 = .ok (.ifCond .ne 5, 3) := by decide +kernel
theorem dX4_heavy_21 : decode cX4_heavy 21 = .ok (.iconst (-1), 1) := by decide +kernel
theorem dX4_heavy_22 : decode cX4_heavy 22 = .ok (.ireturn, 1) := by decide +kernel
theorem dX4_heavy_23 : decode cX4_heavy 23 = .ok (.aload_n 0, 1) := by decide +kernel
theorem dX4_heavy_24 : decode cX4_heavy 24 = .ok (.iload_n 3, 1) := by decide +kernel
theorem dX4_heavy_25 : decode cX4_heavy 25 = .ok (.iload 4, 2) := by decide +kernel
theorem dX4_heavy_27 : decode cX4_heavy 27 = .ok (.invokevirtual 189, 3) := by decide +kernel
theorem dX4_heavy_30 : decode cX4_heavy 30 = .ok (.ifCond .ne 6, 3) := by decide +kernel
theorem dX4_heavy_33 : decode cX4_heavy 33 = .ok (.bipush (-2), 2) := by decide +kernel
theorem dX4_heavy_35 : decode cX4_heavy 35 = .ok (.ireturn, 1) := by decide +kernel
theorem dX4_heavy_36 : decode cX4_heavy 36 = .ok (.aload_n 0, 1) := by decide +kernel
theorem dX4_heavy_37 : decode cX4_heavy 37 = .ok (.aload_n 0, 1) := by decide +kernel
theorem dX4_heavy_38 : decode cX4_heavy 38 = .ok (.invokevirtual 71, 3) := by decide +kernel
theorem dX4_heavy_41 : decode cX4_heavy 41 = .ok (.iload_n 1, 1) := by decide +kernel
theorem dX4_heavy_42 : decode cX4_heavy 42 = .ok (.iload_n 2, 1) := by decide +kernel
theorem dX4_heavy_43 : decode cX4_heavy 43 = .ok (.iload_n 3, 1) := by decide +kernel
theorem dX4_heavy_44 : decode cX4_heavy 44 = .ok (.iload 4, 2) := by decide +kernel
theorem dX4_heavy_46 : decode cX4_heavy 46 = .ok (.invokevirtual 192, 3) := by decide +kernel
theorem dX4_heavy_49 : decode cX4_heavy 49 = .ok (.aload_n 0, 1) := by decide +kernel
theorem dX4_heavy_50 : decode cX4_heavy 50 = .ok (.getfield 35, 3) := by decide +kernel
theorem dX4_heavy_53 : decode cX4_heavy 53 = .ok (.getfield 174, 3) := by decide +kernel
theorem dX4_heavy_56 : decode cX4_heavy 56 = .ok (.ireturn, 1) := by decide +kernel
set_option maxRecDepth 20000 in
theorem ggX4_failed_X0_hasRange : GoodIn wsX4_failed wsX0_hasRange := goodIn_r _ [8, 9, 151, 152] rfl (by decide +kernel)
set_option maxRecDepth 20000 in
theorem gX4_failed_X0_hasRange : GoodIn wsX4_failed (wsV RX4 79 RX0 yX0_hasRange wsX0_hasRange) := goodIn_app (goodIn_of _ (by decide +kernel)) ggX4_failed_X0_hasRange
set_option maxRecDepth 20000 in
theorem ggX4_failed_X4_isShare : GoodIn wsX4_failed wsX4_isShare := goodIn_r _ [13] rfl (by decide +kernel)
set_option maxRecDepth 20000 in
theorem gX4_failed_X4_isShare : GoodIn wsX4_failed (va_wsS RX4 186 yX4_isShare wsX4_isShare) := goodIn_app (goodIn_of _ (by decide +kernel)) ggX4_failed_X4_isShare
set_option maxRecDepth 20000 in
theorem ggX4_failed_X4_isEnough : GoodIn wsX4_failed wsX4_isEnough := goodIn_r _ [17, 18, 137, 138, 139, 140, 141, 142, 143, 144, 145] rfl (by decide +kernel)
set_option maxRecDepth 20000 in
theorem gX4_failed_X4_isEnough : GoodIn wsX4_failed (wsV RX4 189 RX4 yX4_isEnough wsX4_isEnough) := goodIn_app (goodIn_of _ (by decide +kernel)) ggX4_failed_X4_isEnough
set_option maxRecDepth 20000 in
theorem ggX4_failed_X4_laidTree : GoodIn wsX4_failed wsX4_laidTree := goodIn_r _ [22, 23, 24, 18, 25, 1, 26, 27, 28, 29, 30, 31, 32, 33, 34, 35, 36, 37, 38, 39, 40, 41, 42, 43, 44, 45, 46, 47, 48, 49, 50, 51, 52, 53, 54, 55, 56, 57, 58, 59, 60, 61, 62, 63, 64, 65, 66, 67, 68, 69, 70, 71, 72, 73, 74, 75, 76, 77, 78, 79, 80, 81, 82, 83, 84, 85, 86, 87, 88, 89, 90, 91, 92, 93, 94, 95, 96, 97, 98, 99, 100, 101, 102, 103, 104, 105, 106, 107, 108, 109, 110, 111, 137, 138, 139, 140, 141, 142, 143, 144, 145, 153, 154, 155, 156, 157, 158, 159, 160, 161, 162, 163, 151, 152, 146, 147, 148, 149, 150] rfl (by decide +kernel)
set_option maxRecDepth 20000 in
theorem gX4_failed_X4_laidTree : GoodIn wsX4_failed (wsV RX4 71 RX4 yX4_laidTree wsX4_laidTree) := goodIn_app (goodIn_of _ (by decide +kernel)) ggX4_failed_X4_laidTree
set_option maxRecDepth 20000 in
theorem ggX4_failed_X2_gather : GoodIn wsX4_failed wsX2_gather := goodIn_r _ [115, 34, 36, 55, 56, 57, 58, 59, 60, 61, 62, 63, 116, 117, 118, 30, 119, 35, 70, 71, 72, 73, 74, 75, 76, 77, 78, 64, 65, 66, 67, 68, 69, 79, 80, 81, 82, 83, 84, 85, 86, 87, 88, 89, 90, 91, 92, 93, 94, 153, 154, 155, 156, 157, 158, 159, 160, 161, 162, 163, 146, 147, 148, 149, 150] rfl (by decide +kernel)
set_option maxRecDepth 20000 in
theorem gX4_failed_X2_gather : GoodIn wsX4_failed (wsV RX4 170 RX2 yX2_gather wsX2_gather) := goodIn_app (goodIn_of _ (by decide +kernel)) ggX4_failed_X2_gather
set_option maxRecDepth 20000 in
theorem ggX4_failed_X4_gatherHeavy : GoodIn wsX4_failed wsX4_gatherHeavy := goodIn_r _ [123, 2, 3, 124, 1, 125, 112, 113, 114, 30, 115, 34, 36, 55, 56, 57, 58, 59, 60, 61, 62, 63, 116, 117, 118, 119, 35, 70, 71, 72, 73, 74, 75, 76, 77, 78, 64, 65, 66, 67, 68, 69, 79, 80, 81, 82, 83, 84, 85, 86, 87, 88, 89, 90, 91, 92, 93, 94, 126, 127, 128, 7, 129, 130, 131, 132, 133, 134, 135, 12, 136, 137, 138, 139, 140, 141, 142, 143, 144, 145, 146, 147, 148, 149, 150, 153, 154, 155, 156, 157, 158, 159, 160, 161, 162, 163, 151, 152] rfl (by decide +kernel)
set_option maxRecDepth 20000 in
theorem gX4_failed_X4_gatherHeavy : GoodIn wsX4_failed (wsV RX4 192 RX4 yX4_gatherHeavy wsX4_gatherHeavy) := goodIn_app (goodIn_of _ (by decide +kernel)) ggX4_failed_X4_gatherHeavy
theorem dX4_failed_0 : decode cX4_failed 0 = .ok (.aload_n 0, 1) := by decide +kernel
theorem dX4_failed_1 : decode cX4_failed 1 = .ok (.getfield 12, 3) := by decide +kernel
theorem dX4_failed_4 : decode cX4_failed 4 = .ok (.iload_n 1, 1) := by decide +kernel
theorem dX4_failed_5 : decode cX4_failed 5 = .ok (.iload_n 2, 1) := by decide +kernel
theorem dX4_failed_6 : decode cX4_failed 6 = .ok (.invokevirtual 79, 3) := by decide +kernel
theorem dX4_failed_9 : decode cX4_failed 9 = .ok (.ifCond .eq 12, 3) := by decide +kernel
theorem dX4_failed_12 : decode cX4_failed 12 = .ok (.iload_n 3, 1) := by decide +kernel
theorem dX4_failed_13 : decode cX4_failed 13 = .ok (.iload 4, 2) := by decide +kernel
theorem dX4_failed_15 : decode cX4_failed 15 = .ok (.invokestatic 186, 3) := by decide +kernel
theorem dX4_failed_18 : decode cX4_failed 18 = .ok (.ifCond .ne 5, 3) := by decide +kernel
theorem dX4_failed_21 : decode cX4_failed 21 = .ok (.iconst (-1), 1) := by decide +kernel
theorem dX4_failed_22 : decode cX4_failed 22 = .ok (.ireturn, 1) := by decide +kernel
theorem dX4_failed_23 : decode cX4_failed 23 = .ok (.aload_n 0, 1) := by decide +kernel
theorem dX4_failed_24 : decode cX4_failed 24 = .ok (.iload_n 3, 1) := by decide +kernel
theorem dX4_failed_25 : decode cX4_failed 25 = .ok (.iload 4, 2) := by decide +kernel
theorem dX4_failed_27 : decode cX4_failed 27 = .ok (.invokevirtual 189, 3) := by decide +kernel
theorem dX4_failed_30 : decode cX4_failed 30 = .ok (.ifCond .ne 6, 3) := by decide +kernel
theorem dX4_failed_33 : decode cX4_failed 33 = .ok (.bipush (-2), 2) := by decide +kernel
theorem dX4_failed_35 : decode cX4_failed 35 = .ok (.ireturn, 1) := by decide +kernel
theorem dX4_failed_36 : decode cX4_failed 36 = .ok (.aload_n 0, 1) := by decide +kernel
theorem dX4_failed_37 : decode cX4_failed 37 = .ok (.invokevirtual 71, 3) := by decide +kernel
theorem dX4_failed_40 : decode cX4_failed 40 = .ok (.astore 5, 2) := by decide +kernel
theorem dX4_failed_42 : decode cX4_failed 42 = .ok (.aload 5, 2) := by decide +kernel
theorem dX4_failed_44 : decode cX4_failed 44 = .ok (.aload_n 0, 1) := by decide +kernel
theorem dX4_failed_45 : decode cX4_failed 45 = .ok (.getfield 35, 3) := by decide +kernel
theorem dX4_failed_48 : decode cX4_failed 48 = .ok (.iload_n 1, 1) := by decide +kernel
theorem dX4_failed_49 : decode cX4_failed 49 = .ok (.iload_n 2, 1) := by decide +kernel
theorem dX4_failed_50 : decode cX4_failed 50 = .ok (.invokevirtual 170, 3) := by decide +kernel
theorem dX4_failed_53 : decode cX4_failed 53 = .ok (.aload_n 0, 1) := by decide +kernel
theorem dX4_failed_54 : decode cX4_failed 54 = .ok (.getfield 35, 3) := by decide +kernel
theorem dX4_failed_57 : decode cX4_failed 57 = .ok (.getfield 174, 3) := by decide +kernel
theorem dX4_failed_60 : decode cX4_failed 60 = .ok (.istore 6, 2) := by decide +kernel
theorem dX4_failed_62 : decode cX4_failed 62 = .ok (.aload_n 0, 1) := by decide +kernel
theorem dX4_failed_63 : decode cX4_failed 63 = .ok (.aload 5, 2) := by decide +kernel
theorem dX4_failed_65 : decode cX4_failed 65 = .ok (.iload_n 1, 1) := by decide +kernel
theorem dX4_failed_66 : decode cX4_failed 66 = .ok (.iload_n 2, 1) := by decide +kernel
theorem dX4_failed_67 : decode cX4_failed 67 = .ok (.iload_n 3, 1) := by decide +kernel
theorem dX4_failed_68 : decode cX4_failed 68 = .ok (.iload 4, 2) := by decide +kernel
theorem dX4_failed_70 : decode cX4_failed 70 = .ok (.invokevirtual 192, 3) := by decide +kernel
theorem dX4_failed_73 : decode cX4_failed 73 = .ok (.iload 6, 2) := by decide +kernel
theorem dX4_failed_75 : decode cX4_failed 75 = .ok (.aload_n 0, 1) := by decide +kernel
theorem dX4_failed_76 : decode cX4_failed 76 = .ok (.getfield 35, 3) := by decide +kernel
theorem dX4_failed_79 : decode cX4_failed 79 = .ok (.getfield 174, 3) := by decide +kernel
theorem dX4_failed_82 : decode cX4_failed 82 = .ok (.isub, 1) := by decide +kernel
theorem dX4_failed_83 : decode cX4_failed 83 = .ok (.ireturn, 1) := by decide +kernel
theorem dX4_isEnough_0 : decode cX4_isEnough 0 = .ok (.iload_n 1, 1) := by decide +kernel
theorem dX4_isEnough_1 : decode cX4_isEnough 1 = .ok (.aload_n 0, 1) := by decide +kernel
theorem dX4_isEnough_2 : decode cX4_isEnough 2 = .ok (.getfield 49, 3) := by decide +kernel
theorem dX4_isEnough_5 : decode cX4_isEnough 5 = .ok (.iconst 1, 1) := by decide +kernel
theorem dX4_isEnough_6 : decode cX4_isEnough 6 = .ok (.iadd, 1) := by decide +kernel
theorem dX4_isEnough_7 : decode cX4_isEnough 7 = .ok (.imul, 1) := by decide +kernel
theorem dX4_isEnough_8 : decode cX4_isEnough 8 = .ok (.iload_n 2, 1) := by decide +kernel
theorem dX4_isEnough_9 : decode cX4_isEnough 9 = .ok (.if_icmp .lt 7, 3) := by decide +kernel
theorem dX4_isEnough_12 : decode cX4_isEnough 12 = .ok (.iconst 1, 1) := by decide +kernel
theorem dX4_isEnough_13 : decode cX4_isEnough 13 = .ok (.goto 4, 3) := by decide +kernel
theorem dX4_isEnough_16 : decode cX4_isEnough 16 = .ok (.iconst 0, 1) := by decide +kernel
theorem dX4_isEnough_17 : decode cX4_isEnough 17 = .ok (.ireturn, 1) := by decide +kernel
set_option maxRecDepth 20000 in
theorem ggX4_gatherHeavy_X2_gather : GoodIn wsX4_gatherHeavy wsX2_gather := goodIn_r _ [10, 11, 12, 13, 14, 15, 16, 17, 18, 19, 20, 21, 22, 23, 24, 9, 25, 26, 27, 28, 29, 30, 31, 32, 33, 34, 35, 36, 37, 38, 39, 40, 41, 42, 43, 44, 45, 46, 47, 48, 49, 50, 51, 52, 53, 54, 55, 56, 57, 85, 86, 87, 88, 89, 90, 91, 92, 93, 94, 95, 80, 81, 82, 83, 84] rfl (by decide +kernel)
set_option maxRecDepth 20000 in
theorem gX4_gatherHeavy_X2_gather : GoodIn wsX4_gatherHeavy (wsV RX4 170 RX2 yX2_gather wsX2_gather) := goodIn_app (goodIn_of _ (by decide +kernel)) ggX4_gatherHeavy_X2_gather
set_option maxRecDepth 20000 in
theorem ggX4_gatherHeavy_X0_oftenIn : GoodIn wsX4_gatherHeavy wsX0_oftenIn := goodIn_r _ [62, 63, 96, 97] rfl (by decide +kernel)
set_option maxRecDepth 20000 in
theorem gX4_gatherHeavy_X0_oftenIn : GoodIn wsX4_gatherHeavy (wsV RX4 113 RX0 yX0_oftenIn wsX0_oftenIn) := goodIn_app (goodIn_of _ (by decide +kernel)) ggX4_gatherHeavy_X0_oftenIn
set_option maxRecDepth 20000 in
theorem ggX4_gatherHeavy_X3_keepHeavy : GoodIn wsX4_gatherHeavy wsX3_keepHeavy := goodIn_r _ [67, 19, 41, 68, 69, 70, 54, 55, 56, 17, 57, 40, 46, 47, 48, 49, 50, 51, 52, 53, 80, 81, 82, 83, 84] rfl (by decide +kernel)
set_option maxRecDepth 20000 in
theorem gX4_gatherHeavy_X3_keepHeavy : GoodIn wsX4_gatherHeavy (wsV RX4 262 RX3 yX3_keepHeavy wsX3_keepHeavy) := goodIn_app (goodIn_of _ (by decide +kernel)) ggX4_gatherHeavy_X3_keepHeavy
theorem dX4_gatherHeavy_0 : decode cX4_gatherHeavy 0 = .ok (.aload_n 1, 1) := by decide +kernel
theorem dX4_gatherHeavy_1 : decode cX4_gatherHeavy 1 = .ok (.aload_n 0, 1) := by decide +kernel
theorem dX4_gatherHeavy_2 : decode cX4_gatherHeavy 2 = .ok (.getfield 35, 3) := by decide +kernel
theorem dX4_gatherHeavy_5 : decode cX4_gatherHeavy 5 = .ok (.iload_n 2, 1) := by decide +kernel
theorem dX4_gatherHeavy_6 : decode cX4_gatherHeavy 6 = .ok (.iload_n 3, 1) := by decide +kernel
theorem dX4_gatherHeavy_7 : decode cX4_gatherHeavy 7 = .ok (.invokevirtual 170, 3) := by decide +kernel
theorem dX4_gatherHeavy_10 : decode cX4_gatherHeavy 10 = .ok (.iconst 0, 1) := by decide +kernel
theorem dX4_gatherHeavy_11 : decode cX4_gatherHeavy 11 = .ok (.istore 6, 2) := by decide +kernel
theorem dX4_gatherHeavy_13 : decode cX4_gatherHeavy 13 = .ok (.iload 6, 2) := by decide +kernel
theorem dX4_gatherHeavy_15 : decode cX4_gatherHeavy 15 = .ok (.aload_n 0, 1) := by decide +kernel
theorem dX4_gatherHeavy_16 : decode cX4_gatherHeavy 16 = .ok (.getfield 35, 3) := by decide +kernel
theorem dX4_gatherHeavy_19 : decode cX4_gatherHeavy 19 = .ok (.getfield 174, 3) := by decide +kernel
theorem dX4_gatherHeavy_22 : decode cX4_gatherHeavy 22 = .ok (.if_icmp .ge 38, 3) := by decide +kernel
theorem dX4_gatherHeavy_25 : decode cX4_gatherHeavy 25 = .ok (.aload_n 0, 1) := by decide +kernel
theorem dX4_gatherHeavy_26 : decode cX4_gatherHeavy 26 = .ok (.getfield 35, 3) := by decide +kernel
theorem dX4_gatherHeavy_29 : decode cX4_gatherHeavy 29 = .ok (.getfield 136, 3) := by decide +kernel
theorem dX4_gatherHeavy_32 : decode cX4_gatherHeavy 32 = .ok (.iload 6, 2) := by decide +kernel
theorem dX4_gatherHeavy_34 : decode cX4_gatherHeavy 34 = .ok (.aload_n 0, 1) := by decide +kernel
theorem dX4_gatherHeavy_35 : decode cX4_gatherHeavy 35 = .ok (.getfield 12, 3) := by decide +kernel
theorem dX4_gatherHeavy_38 : decode cX4_gatherHeavy 38 = .ok (.aload_n 0, 1) := by decide +kernel
theorem dX4_gatherHeavy_39 : decode cX4_gatherHeavy 39 = .ok (.getfield 35, 3) := by decide +kernel
theorem dX4_gatherHeavy_42 : decode cX4_gatherHeavy 42 = .ok (.getfield 133, 3) := by decide +kernel
theorem dX4_gatherHeavy_45 : decode cX4_gatherHeavy 45 = .ok (.iload 6, 2) := by decide +kernel
theorem dX4_gatherHeavy_47 : decode cX4_gatherHeavy 47 = .ok (.iaload, 1) := by decide +kernel
theorem dX4_gatherHeavy_48 : decode cX4_gatherHeavy 48 = .ok (.iload_n 2, 1) := by decide +kernel
theorem dX4_gatherHeavy_49 : decode cX4_gatherHeavy 49 = .ok (.iload_n 3, 1) := by decide +kernel
theorem dX4_gatherHeavy_50 : decode cX4_gatherHeavy 50 = .ok (.invokevirtual 113, 3) := by decide +kernel
theorem dX4_gatherHeavy_53 : decode cX4_gatherHeavy 53 = .ok (.iastore, 1) := by decide +kernel
theorem dX4_gatherHeavy_54 : decode cX4_gatherHeavy 54 = .ok (.iinc 6 1, 3) := by decide +kernel
theorem dX4_gatherHeavy_57 : decode cX4_gatherHeavy 57 = .ok (.goto (-44), 3) := by decide +kernel
theorem dX4_gatherHeavy_60 : decode cX4_gatherHeavy 60 = .ok (.aload_n 0, 1) := by decide +kernel
theorem dX4_gatherHeavy_61 : decode cX4_gatherHeavy 61 = .ok (.getfield 35, 3) := by decide +kernel
theorem dX4_gatherHeavy_64 : decode cX4_gatherHeavy 64 = .ok (.iload_n 3, 1) := by decide +kernel
theorem dX4_gatherHeavy_65 : decode cX4_gatherHeavy 65 = .ok (.iload_n 2, 1) := by decide +kernel
theorem dX4_gatherHeavy_66 : decode cX4_gatherHeavy 66 = .ok (.isub, 1) := by decide +kernel
theorem dX4_gatherHeavy_67 : decode cX4_gatherHeavy 67 = .ok (.iload 4, 2) := by decide +kernel
theorem dX4_gatherHeavy_69 : decode cX4_gatherHeavy 69 = .ok (.iload 5, 2) := by decide +kernel
theorem dX4_gatherHeavy_71 : decode cX4_gatherHeavy 71 = .ok (.invokevirtual 262, 3) := by decide +kernel
theorem dX4_gatherHeavy_74 : decode cX4_gatherHeavy 74 = .ok (.return_, 1) := by decide +kernel

